section
-- ===== PART A: goes FIRST, ahead of the names: the tables' words, and 'selects' of the private methods out of them =====
/-- a private method of a class that the tables say can be made, by its rows of tables_1 -/
def lw_okq (q : MethodName × Nat) : Prop := (q.1.cls ≠ "java/lang/invoke/MethodHandle" ∧ q.1.cls ≠ "java/lang/invoke/VarHandle") ∧ Cond.instantiable q.1.cls q.2 ∈ tables_1 ∧ Cond.privateMethod q.1 ∈ tables_1 ∧ Cond.instanceMethod q.1 ∈ tables_1
theorem lw_p0 : lw_okq (⟨"RicePriests", "tell", "(I)I"⟩, 7) := ⟨⟨by decide +kernel, by decide +kernel⟩, List.mem_of_getElem? (i := 18) (by decide +kernel), List.mem_of_getElem? (i := 221) (by decide +kernel), List.mem_of_getElem? (i := 222) (by decide +kernel)⟩
theorem lw_p1 : lw_okq (⟨"RicePriests", "orNone", "(I)I"⟩, 7) := ⟨⟨by decide +kernel, by decide +kernel⟩, List.mem_of_getElem? (i := 18) (by decide +kernel), List.mem_of_getElem? (i := 328) (by decide +kernel), List.mem_of_getElem? (i := 329) (by decide +kernel)⟩
theorem lw_p2 : lw_okq (⟨"RicePriests$Mission", "letTheOverfullFallIll", "()V"⟩, 9) := ⟨⟨by decide +kernel, by decide +kernel⟩, List.mem_of_getElem? (i := 26) (by decide +kernel), List.mem_of_getElem? (i := 373) (by decide +kernel), List.mem_of_getElem? (i := 374) (by decide +kernel)⟩
theorem lw_p3 : lw_okq (⟨"RicePriests$Mission", "letAllDigest", "()V"⟩, 9) := ⟨⟨by decide +kernel, by decide +kernel⟩, List.mem_of_getElem? (i := 26) (by decide +kernel), List.mem_of_getElem? (i := 381) (by decide +kernel), List.mem_of_getElem? (i := 382) (by decide +kernel)⟩
theorem lw_p4 : lw_okq (⟨"RicePriests$Seer", "staysQuiet", "(I)Z"⟩, 1) := ⟨⟨by decide +kernel, by decide +kernel⟩, List.mem_of_getElem? (i := 115) (by decide +kernel), List.mem_of_getElem? (i := 484) (by decide +kernel), List.mem_of_getElem? (i := 485) (by decide +kernel)⟩
theorem lw_p5 : lw_okq (⟨"RicePriests$Seer", "makeFast", "(I)V"⟩, 1) := ⟨⟨by decide +kernel, by decide +kernel⟩, List.mem_of_getElem? (i := 115) (by decide +kernel), List.mem_of_getElem? (i := 513) (by decide +kernel), List.mem_of_getElem? (i := 514) (by decide +kernel)⟩
theorem lw_p6 : lw_okq (⟨"RicePriests$Mission", "takeTogether", "(II)Z"⟩, 9) := ⟨⟨by decide +kernel, by decide +kernel⟩, List.mem_of_getElem? (i := 26) (by decide +kernel), List.mem_of_getElem? (i := 526) (by decide +kernel), List.mem_of_getElem? (i := 527) (by decide +kernel)⟩
theorem lw_p7 : lw_okq (⟨"RicePriests", "sheetAt", "(I)LRicePriests$Sheet;"⟩, 7) := ⟨⟨by decide +kernel, by decide +kernel⟩, List.mem_of_getElem? (i := 18) (by decide +kernel), List.mem_of_getElem? (i := 534) (by decide +kernel), List.mem_of_getElem? (i := 535) (by decide +kernel)⟩
theorem lw_p8 : lw_okq (⟨"RicePriests", "wrongFulness", "(LRicePriests$Sheet;I)I"⟩, 7) := ⟨⟨by decide +kernel, by decide +kernel⟩, List.mem_of_getElem? (i := 18) (by decide +kernel), List.mem_of_getElem? (i := 538) (by decide +kernel), List.mem_of_getElem? (i := 539) (by decide +kernel)⟩
theorem lw_p9 : lw_okq (⟨"RicePriests$Seer", "dreamsAsTold", "(ILRicePriests$Sheet;)Z"⟩, 1) := ⟨⟨by decide +kernel, by decide +kernel⟩, List.mem_of_getElem? (i := 115) (by decide +kernel), List.mem_of_getElem? (i := 555) (by decide +kernel), List.mem_of_getElem? (i := 556) (by decide +kernel)⟩
theorem lw_p10 : lw_okq (⟨"RicePriests$Reader", "advance", "()V"⟩, 6) := ⟨⟨by decide +kernel, by decide +kernel⟩, List.mem_of_getElem? (i := 128) (by decide +kernel), List.mem_of_getElem? (i := 629) (by decide +kernel), List.mem_of_getElem? (i := 630) (by decide +kernel)⟩
theorem lw_p11 : lw_okq (⟨"RicePriests$Reader", "readItem", "(LRicePriests$Mission;)Z"⟩, 6) := ⟨⟨by decide +kernel, by decide +kernel⟩, List.mem_of_getElem? (i := 128) (by decide +kernel), List.mem_of_getElem? (i := 644) (by decide +kernel), List.mem_of_getElem? (i := 645) (by decide +kernel)⟩
theorem lw_p12 : lw_okq (⟨"RicePriests$Reader", "isWord", "(Ljava/lang/String;)Z"⟩, 6) := ⟨⟨by decide +kernel, by decide +kernel⟩, List.mem_of_getElem? (i := 128) (by decide +kernel), List.mem_of_getElem? (i := 649) (by decide +kernel), List.mem_of_getElem? (i := 650) (by decide +kernel)⟩
theorem lw_p13 : lw_okq (⟨"RicePriests$Reader", "readTold", "(LRicePriests$Mission;)Z"⟩, 6) := ⟨⟨by decide +kernel, by decide +kernel⟩, List.mem_of_getElem? (i := 128) (by decide +kernel), List.mem_of_getElem? (i := 701) (by decide +kernel), List.mem_of_getElem? (i := 702) (by decide +kernel)⟩
theorem lw_p14 : lw_okq (⟨"RicePriests$Reader", "readNumber", "(I)Z"⟩, 6) := ⟨⟨by decide +kernel, by decide +kernel⟩, List.mem_of_getElem? (i := 128) (by decide +kernel), List.mem_of_getElem? (i := 705) (by decide +kernel), List.mem_of_getElem? (i := 706) (by decide +kernel)⟩
theorem lw_p15 : lw_okq (⟨"RicePriests$Reader", "readWater", "(LRicePriests$Mission;)Z"⟩, 6) := ⟨⟨by decide +kernel, by decide +kernel⟩, List.mem_of_getElem? (i := 128) (by decide +kernel), List.mem_of_getElem? (i := 712) (by decide +kernel), List.mem_of_getElem? (i := 713) (by decide +kernel)⟩
def lw_privs_1 : List (MethodName × Nat) := [(⟨"RicePriests", "tell", "(I)I"⟩, 7), (⟨"RicePriests", "orNone", "(I)I"⟩, 7), (⟨"RicePriests$Mission", "letTheOverfullFallIll", "()V"⟩, 9), (⟨"RicePriests$Mission", "letAllDigest", "()V"⟩, 9), (⟨"RicePriests$Seer", "staysQuiet", "(I)Z"⟩, 1), (⟨"RicePriests$Seer", "makeFast", "(I)V"⟩, 1), (⟨"RicePriests$Mission", "takeTogether", "(II)Z"⟩, 9), (⟨"RicePriests", "sheetAt", "(I)LRicePriests$Sheet;"⟩, 7), (⟨"RicePriests", "wrongFulness", "(LRicePriests$Sheet;I)I"⟩, 7), (⟨"RicePriests$Seer", "dreamsAsTold", "(ILRicePriests$Sheet;)Z"⟩, 1), (⟨"RicePriests$Reader", "advance", "()V"⟩, 6), (⟨"RicePriests$Reader", "readItem", "(LRicePriests$Mission;)Z"⟩, 6), (⟨"RicePriests$Reader", "isWord", "(Ljava/lang/String;)Z"⟩, 6), (⟨"RicePriests$Reader", "readTold", "(LRicePriests$Mission;)Z"⟩, 6), (⟨"RicePriests$Reader", "readNumber", "(I)Z"⟩, 6), (⟨"RicePriests$Reader", "readWater", "(LRicePriests$Mission;)Z"⟩, 6)]
theorem lw_r1 : ∀ q ∈ lw_privs_1, lw_okq q := List.forall_mem_cons.mpr ⟨lw_p0, List.forall_mem_cons.mpr ⟨lw_p1, List.forall_mem_cons.mpr ⟨lw_p2, List.forall_mem_cons.mpr ⟨lw_p3, List.forall_mem_cons.mpr ⟨lw_p4, List.forall_mem_cons.mpr ⟨lw_p5, List.forall_mem_cons.mpr ⟨lw_p6, List.forall_mem_cons.mpr ⟨lw_p7, List.forall_mem_cons.mpr ⟨lw_p8, List.forall_mem_cons.mpr ⟨lw_p9, List.forall_mem_cons.mpr ⟨lw_p10, List.forall_mem_cons.mpr ⟨lw_p11, List.forall_mem_cons.mpr ⟨lw_p12, List.forall_mem_cons.mpr ⟨lw_p13, List.forall_mem_cons.mpr ⟨lw_p14, List.forall_mem_cons.mpr ⟨lw_p15, fun _ h => absurd h List.not_mem_nil⟩⟩⟩⟩⟩⟩⟩⟩⟩⟩⟩⟩⟩⟩⟩⟩
theorem lw_p16 : lw_okq (⟨"RicePriests$Reader", "readOut", "(LRicePriests$Mission;)Z"⟩, 6) := ⟨⟨by decide +kernel, by decide +kernel⟩, List.mem_of_getElem? (i := 128) (by decide +kernel), List.mem_of_getElem? (i := 717) (by decide +kernel), List.mem_of_getElem? (i := 718) (by decide +kernel)⟩
theorem lw_p17 : lw_okq (⟨"RicePriests$Reader", "readPriest", "(LRicePriests$Mission;)Z"⟩, 6) := ⟨⟨by decide +kernel, by decide +kernel⟩, List.mem_of_getElem? (i := 128) (by decide +kernel), List.mem_of_getElem? (i := 721) (by decide +kernel), List.mem_of_getElem? (i := 722) (by decide +kernel)⟩
theorem lw_p18 : lw_okq (⟨"RicePriests$Reader", "kindAtHand", "()I"⟩, 6) := ⟨⟨by decide +kernel, by decide +kernel⟩, List.mem_of_getElem? (i := 128) (by decide +kernel), List.mem_of_getElem? (i := 725) (by decide +kernel), List.mem_of_getElem? (i := 726) (by decide +kernel)⟩
theorem lw_p19 : lw_okq (⟨"RicePriests$Reader", "readPerhaps", "(Ljava/lang/String;LRicePriests$Priest;I)Z"⟩, 6) := ⟨⟨by decide +kernel, by decide +kernel⟩, List.mem_of_getElem? (i := 128) (by decide +kernel), List.mem_of_getElem? (i := 742) (by decide +kernel), List.mem_of_getElem? (i := 743) (by decide +kernel)⟩
theorem lw_p20 : lw_okq (⟨"RicePriests$Sheet", "cut", "(I)I"⟩, 3) := ⟨⟨by decide +kernel, by decide +kernel⟩, List.mem_of_getElem? (i := 170) (by decide +kernel), List.mem_of_getElem? (i := 787) (by decide +kernel), List.mem_of_getElem? (i := 788) (by decide +kernel)⟩
theorem lw_p21 : lw_okq (⟨"RicePriestsModel", "becomes", "(II)I"⟩, 17) := ⟨⟨by decide +kernel, by decide +kernel⟩, List.mem_of_getElem? (i := 832) (by decide +kernel), List.mem_of_getElem? (i := 902) (by decide +kernel), List.mem_of_getElem? (i := 903) (by decide +kernel)⟩
theorem lw_p22 : lw_okq (⟨"RicePriestsModel", "finds", "(I)I"⟩, 17) := ⟨⟨by decide +kernel, by decide +kernel⟩, List.mem_of_getElem? (i := 832) (by decide +kernel), List.mem_of_getElem? (i := 906) (by decide +kernel), List.mem_of_getElem? (i := 907) (by decide +kernel)⟩
theorem lw_p23 : lw_okq (⟨"RicePriestsModel", "comes", "(II)I"⟩, 17) := ⟨⟨by decide +kernel, by decide +kernel⟩, List.mem_of_getElem? (i := 832) (by decide +kernel), List.mem_of_getElem? (i := 932) (by decide +kernel), List.mem_of_getElem? (i := 933) (by decide +kernel)⟩
theorem lw_p24 : lw_okq (⟨"RicePriestsModel", "sets", "(III)V"⟩, 17) := ⟨⟨by decide +kernel, by decide +kernel⟩, List.mem_of_getElem? (i := 832) (by decide +kernel), List.mem_of_getElem? (i := 936) (by decide +kernel), List.mem_of_getElem? (i := 937) (by decide +kernel)⟩
theorem lw_p25 : lw_okq (⟨"RicePriestsModel", "isPriest", "(I)Z"⟩, 17) := ⟨⟨by decide +kernel, by decide +kernel⟩, List.mem_of_getElem? (i := 832) (by decide +kernel), List.mem_of_getElem? (i := 944) (by decide +kernel), List.mem_of_getElem? (i := 945) (by decide +kernel)⟩
theorem lw_p26 : lw_okq (⟨"RicePriestsModel", "holds", "(I)I"⟩, 17) := ⟨⟨by decide +kernel, by decide +kernel⟩, List.mem_of_getElem? (i := 832) (by decide +kernel), List.mem_of_getElem? (i := 948) (by decide +kernel), List.mem_of_getElem? (i := 949) (by decide +kernel)⟩
theorem lw_p27 : lw_okq (⟨"RicePriestsModel", "its", "(II)I"⟩, 17) := ⟨⟨by decide +kernel, by decide +kernel⟩, List.mem_of_getElem? (i := 832) (by decide +kernel), List.mem_of_getElem? (i := 952) (by decide +kernel), List.mem_of_getElem? (i := 953) (by decide +kernel)⟩
theorem lw_p28 : lw_okq (⟨"RicePriestsModel", "room", "(I)I"⟩, 17) := ⟨⟨by decide +kernel, by decide +kernel⟩, List.mem_of_getElem? (i := 832) (by decide +kernel), List.mem_of_getElem? (i := 962) (by decide +kernel), List.mem_of_getElem? (i := 963) (by decide +kernel)⟩
theorem lw_p29 : lw_okq (⟨"RicePriestsModel", "digests", "(I)I"⟩, 17) := ⟨⟨by decide +kernel, by decide +kernel⟩, List.mem_of_getElem? (i := 832) (by decide +kernel), List.mem_of_getElem? (i := 966) (by decide +kernel), List.mem_of_getElem? (i := 967) (by decide +kernel)⟩
theorem lw_p30 : lw_okq (⟨"RicePriestsModel", "keeps", "(I)Z"⟩, 17) := ⟨⟨by decide +kernel, by decide +kernel⟩, List.mem_of_getElem? (i := 832) (by decide +kernel), List.mem_of_getElem? (i := 970) (by decide +kernel), List.mem_of_getElem? (i := 971) (by decide +kernel)⟩
theorem lw_p31 : lw_okq (⟨"RicePriestsModel", "swellsBy", "(III)I"⟩, 17) := ⟨⟨by decide +kernel, by decide +kernel⟩, List.mem_of_getElem? (i := 832) (by decide +kernel), List.mem_of_getElem? (i := 985) (by decide +kernel), List.mem_of_getElem? (i := 986) (by decide +kernel)⟩
def lw_privs_2 : List (MethodName × Nat) := [(⟨"RicePriests$Reader", "readOut", "(LRicePriests$Mission;)Z"⟩, 6), (⟨"RicePriests$Reader", "readPriest", "(LRicePriests$Mission;)Z"⟩, 6), (⟨"RicePriests$Reader", "kindAtHand", "()I"⟩, 6), (⟨"RicePriests$Reader", "readPerhaps", "(Ljava/lang/String;LRicePriests$Priest;I)Z"⟩, 6), (⟨"RicePriests$Sheet", "cut", "(I)I"⟩, 3), (⟨"RicePriestsModel", "becomes", "(II)I"⟩, 17), (⟨"RicePriestsModel", "finds", "(I)I"⟩, 17), (⟨"RicePriestsModel", "comes", "(II)I"⟩, 17), (⟨"RicePriestsModel", "sets", "(III)V"⟩, 17), (⟨"RicePriestsModel", "isPriest", "(I)Z"⟩, 17), (⟨"RicePriestsModel", "holds", "(I)I"⟩, 17), (⟨"RicePriestsModel", "its", "(II)I"⟩, 17), (⟨"RicePriestsModel", "room", "(I)I"⟩, 17), (⟨"RicePriestsModel", "digests", "(I)I"⟩, 17), (⟨"RicePriestsModel", "keeps", "(I)Z"⟩, 17), (⟨"RicePriestsModel", "swellsBy", "(III)I"⟩, 17)]
theorem lw_r2 : ∀ q ∈ lw_privs_2, lw_okq q := List.forall_mem_cons.mpr ⟨lw_p16, List.forall_mem_cons.mpr ⟨lw_p17, List.forall_mem_cons.mpr ⟨lw_p18, List.forall_mem_cons.mpr ⟨lw_p19, List.forall_mem_cons.mpr ⟨lw_p20, List.forall_mem_cons.mpr ⟨lw_p21, List.forall_mem_cons.mpr ⟨lw_p22, List.forall_mem_cons.mpr ⟨lw_p23, List.forall_mem_cons.mpr ⟨lw_p24, List.forall_mem_cons.mpr ⟨lw_p25, List.forall_mem_cons.mpr ⟨lw_p26, List.forall_mem_cons.mpr ⟨lw_p27, List.forall_mem_cons.mpr ⟨lw_p28, List.forall_mem_cons.mpr ⟨lw_p29, List.forall_mem_cons.mpr ⟨lw_p30, List.forall_mem_cons.mpr ⟨lw_p31, fun _ h => absurd h List.not_mem_nil⟩⟩⟩⟩⟩⟩⟩⟩⟩⟩⟩⟩⟩⟩⟩⟩
theorem lw_p32 : lw_okq (⟨"RicePriestsModel", "roomiest", "(II)I"⟩, 17) := ⟨⟨by decide +kernel, by decide +kernel⟩, List.mem_of_getElem? (i := 832) (by decide +kernel), List.mem_of_getElem? (i := 997) (by decide +kernel), List.mem_of_getElem? (i := 998) (by decide +kernel)⟩
theorem lw_p33 : lw_okq (⟨"RicePriestsModel", "daysGo", "(I)V"⟩, 17) := ⟨⟨by decide +kernel, by decide +kernel⟩, List.mem_of_getElem? (i := 832) (by decide +kernel), List.mem_of_getElem? (i := 1011) (by decide +kernel), List.mem_of_getElem? (i := 1012) (by decide +kernel)⟩
theorem lw_p34 : lw_okq (⟨"RicePriestsModel", "dayGoes", "()V"⟩, 17) := ⟨⟨by decide +kernel, by decide +kernel⟩, List.mem_of_getElem? (i := 832) (by decide +kernel), List.mem_of_getElem? (i := 1015) (by decide +kernel), List.mem_of_getElem? (i := 1016) (by decide +kernel)⟩
theorem lw_p35 : lw_okq (⟨"RicePriestsModel", "todays", "()I"⟩, 17) := ⟨⟨by decide +kernel, by decide +kernel⟩, List.mem_of_getElem? (i := 832) (by decide +kernel), List.mem_of_getElem? (i := 1019) (by decide +kernel), List.mem_of_getElem? (i := 1020) (by decide +kernel)⟩
theorem lw_p36 : lw_okq (⟨"RicePriestsModel", "confesses", "(I)V"⟩, 17) := ⟨⟨by decide +kernel, by decide +kernel⟩, List.mem_of_getElem? (i := 832) (by decide +kernel), List.mem_of_getElem? (i := 1023) (by decide +kernel), List.mem_of_getElem? (i := 1024) (by decide +kernel)⟩
theorem lw_p37 : lw_okq (⟨"RicePriestsModel", "together", "(I)I"⟩, 17) := ⟨⟨by decide +kernel, by decide +kernel⟩, List.mem_of_getElem? (i := 832) (by decide +kernel), List.mem_of_getElem? (i := 1031) (by decide +kernel), List.mem_of_getElem? (i := 1032) (by decide +kernel)⟩
theorem lw_p38 : lw_okq (⟨"RicePriestsModel", "sumOf", "(I)I"⟩, 17) := ⟨⟨by decide +kernel, by decide +kernel⟩, List.mem_of_getElem? (i := 832) (by decide +kernel), List.mem_of_getElem? (i := 1035) (by decide +kernel), List.mem_of_getElem? (i := 1036) (by decide +kernel)⟩
theorem lw_p39 : lw_okq (⟨"RicePriestsModel", "fullest", "()I"⟩, 17) := ⟨⟨by decide +kernel, by decide +kernel⟩, List.mem_of_getElem? (i := 832) (by decide +kernel), List.mem_of_getElem? (i := 1039) (by decide +kernel), List.mem_of_getElem? (i := 1040) (by decide +kernel)⟩
theorem lw_p40 : lw_okq (⟨"RicePriestsModel", "firstOf", "(III)I"⟩, 17) := ⟨⟨by decide +kernel, by decide +kernel⟩, List.mem_of_getElem? (i := 832) (by decide +kernel), List.mem_of_getElem? (i := 1055) (by decide +kernel), List.mem_of_getElem? (i := 1056) (by decide +kernel)⟩
theorem lw_p41 : lw_okq (⟨"RicePriestsModel", "illBehind", "(I)I"⟩, 17) := ⟨⟨by decide +kernel, by decide +kernel⟩, List.mem_of_getElem? (i := 832) (by decide +kernel), List.mem_of_getElem? (i := 1080) (by decide +kernel), List.mem_of_getElem? (i := 1081) (by decide +kernel)⟩
theorem lw_p42 : lw_okq (⟨"RicePriestsModel", "behind", "(II)I"⟩, 17) := ⟨⟨by decide +kernel, by decide +kernel⟩, List.mem_of_getElem? (i := 832) (by decide +kernel), List.mem_of_getElem? (i := 1088) (by decide +kernel), List.mem_of_getElem? (i := 1089) (by decide +kernel)⟩
theorem lw_p43 : lw_okq (⟨"RicePriestsModel", "whyNot", "(II)I"⟩, 17) := ⟨⟨by decide +kernel, by decide +kernel⟩, List.mem_of_getElem? (i := 832) (by decide +kernel), List.mem_of_getElem? (i := 1114) (by decide +kernel), List.mem_of_getElem? (i := 1115) (by decide +kernel)⟩
theorem lw_p44 : lw_okq (⟨"RicePriestsModel", "whyNone", "(I)I"⟩, 17) := ⟨⟨by decide +kernel, by decide +kernel⟩, List.mem_of_getElem? (i := 832) (by decide +kernel), List.mem_of_getElem? (i := 1118) (by decide +kernel), List.mem_of_getElem? (i := 1119) (by decide +kernel)⟩
theorem lw_p45 : lw_okq (⟨"RicePriestsModel", "isOf", "(III)Z"⟩, 17) := ⟨⟨by decide +kernel, by decide +kernel⟩, List.mem_of_getElem? (i := 832) (by decide +kernel), List.mem_of_getElem? (i := 1126) (by decide +kernel), List.mem_of_getElem? (i := 1127) (by decide +kernel)⟩
theorem lw_p46 : lw_okq (⟨"RicePriestsModel", "isTold", "(II)Z"⟩, 17) := ⟨⟨by decide +kernel, by decide +kernel⟩, List.mem_of_getElem? (i := 832) (by decide +kernel), List.mem_of_getElem? (i := 1130) (by decide +kernel), List.mem_of_getElem? (i := 1131) (by decide +kernel)⟩
theorem lw_p47 : lw_okq (⟨"RicePriestsModel", "draw", "()I"⟩, 17) := ⟨⟨by decide +kernel, by decide +kernel⟩, List.mem_of_getElem? (i := 832) (by decide +kernel), List.mem_of_getElem? (i := 1146) (by decide +kernel), List.mem_of_getElem? (i := 1147) (by decide +kernel)⟩
def lw_privs_3 : List (MethodName × Nat) := [(⟨"RicePriestsModel", "roomiest", "(II)I"⟩, 17), (⟨"RicePriestsModel", "daysGo", "(I)V"⟩, 17), (⟨"RicePriestsModel", "dayGoes", "()V"⟩, 17), (⟨"RicePriestsModel", "todays", "()I"⟩, 17), (⟨"RicePriestsModel", "confesses", "(I)V"⟩, 17), (⟨"RicePriestsModel", "together", "(I)I"⟩, 17), (⟨"RicePriestsModel", "sumOf", "(I)I"⟩, 17), (⟨"RicePriestsModel", "fullest", "()I"⟩, 17), (⟨"RicePriestsModel", "firstOf", "(III)I"⟩, 17), (⟨"RicePriestsModel", "illBehind", "(I)I"⟩, 17), (⟨"RicePriestsModel", "behind", "(II)I"⟩, 17), (⟨"RicePriestsModel", "whyNot", "(II)I"⟩, 17), (⟨"RicePriestsModel", "whyNone", "(I)I"⟩, 17), (⟨"RicePriestsModel", "isOf", "(III)Z"⟩, 17), (⟨"RicePriestsModel", "isTold", "(II)Z"⟩, 17), (⟨"RicePriestsModel", "draw", "()I"⟩, 17)]
theorem lw_r3 : ∀ q ∈ lw_privs_3, lw_okq q := List.forall_mem_cons.mpr ⟨lw_p32, List.forall_mem_cons.mpr ⟨lw_p33, List.forall_mem_cons.mpr ⟨lw_p34, List.forall_mem_cons.mpr ⟨lw_p35, List.forall_mem_cons.mpr ⟨lw_p36, List.forall_mem_cons.mpr ⟨lw_p37, List.forall_mem_cons.mpr ⟨lw_p38, List.forall_mem_cons.mpr ⟨lw_p39, List.forall_mem_cons.mpr ⟨lw_p40, List.forall_mem_cons.mpr ⟨lw_p41, List.forall_mem_cons.mpr ⟨lw_p42, List.forall_mem_cons.mpr ⟨lw_p43, List.forall_mem_cons.mpr ⟨lw_p44, List.forall_mem_cons.mpr ⟨lw_p45, List.forall_mem_cons.mpr ⟨lw_p46, List.forall_mem_cons.mpr ⟨lw_p47, fun _ h => absurd h List.not_mem_nil⟩⟩⟩⟩⟩⟩⟩⟩⟩⟩⟩⟩⟩⟩⟩⟩
theorem lw_p48 : lw_okq (⟨"RicePriestsModel", "items", "()I"⟩, 17) := ⟨⟨by decide +kernel, by decide +kernel⟩, List.mem_of_getElem? (i := 832) (by decide +kernel), List.mem_of_getElem? (i := 1172) (by decide +kernel), List.mem_of_getElem? (i := 1173) (by decide +kernel)⟩
theorem lw_p49 : lw_okq (⟨"RicePriestsModel", "next", "()V"⟩, 17) := ⟨⟨by decide +kernel, by decide +kernel⟩, List.mem_of_getElem? (i := 832) (by decide +kernel), List.mem_of_getElem? (i := 1176) (by decide +kernel), List.mem_of_getElem? (i := 1177) (by decide +kernel)⟩
theorem lw_p50 : lw_okq (⟨"RicePriestsModel", "byteAt", "(I)I"⟩, 17) := ⟨⟨by decide +kernel, by decide +kernel⟩, List.mem_of_getElem? (i := 832) (by decide +kernel), List.mem_of_getElem? (i := 1180) (by decide +kernel), List.mem_of_getElem? (i := 1181) (by decide +kernel)⟩
theorem lw_p51 : lw_okq (⟨"RicePriestsModel", "item", "()V"⟩, 17) := ⟨⟨by decide +kernel, by decide +kernel⟩, List.mem_of_getElem? (i := 832) (by decide +kernel), List.mem_of_getElem? (i := 1195) (by decide +kernel), List.mem_of_getElem? (i := 1196) (by decide +kernel)⟩
theorem lw_p52 : lw_okq (⟨"RicePriestsModel", "kindHere", "()I"⟩, 17) := ⟨⟨by decide +kernel, by decide +kernel⟩, List.mem_of_getElem? (i := 832) (by decide +kernel), List.mem_of_getElem? (i := 1199) (by decide +kernel), List.mem_of_getElem? (i := 1200) (by decide +kernel)⟩
theorem lw_p53 : lw_okq (⟨"RicePriestsModel", "isWord", "(J)Z"⟩, 17) := ⟨⟨by decide +kernel, by decide +kernel⟩, List.mem_of_getElem? (i := 832) (by decide +kernel), List.mem_of_getElem? (i := 1204) (by decide +kernel), List.mem_of_getElem? (i := 1205) (by decide +kernel)⟩
theorem lw_p54 : lw_okq (⟨"RicePriestsModel", "priestHere", "(I)V"⟩, 17) := ⟨⟨by decide +kernel, by decide +kernel⟩, List.mem_of_getElem? (i := 832) (by decide +kernel), List.mem_of_getElem? (i := 1214) (by decide +kernel), List.mem_of_getElem? (i := 1215) (by decide +kernel)⟩
theorem lw_p55 : lw_okq (⟨"RicePriestsModel", "wrongHere", "()V"⟩, 17) := ⟨⟨by decide +kernel, by decide +kernel⟩, List.mem_of_getElem? (i := 832) (by decide +kernel), List.mem_of_getElem? (i := 1218) (by decide +kernel), List.mem_of_getElem? (i := 1219) (by decide +kernel)⟩
theorem lw_p56 : lw_okq (⟨"RicePriestsModel", "perhaps", "(JII)V"⟩, 17) := ⟨⟨by decide +kernel, by decide +kernel⟩, List.mem_of_getElem? (i := 832) (by decide +kernel), List.mem_of_getElem? (i := 1223) (by decide +kernel), List.mem_of_getElem? (i := 1224) (by decide +kernel)⟩
theorem lw_p57 : lw_okq (⟨"RicePriestsModel", "numberHere", "(I)I"⟩, 17) := ⟨⟨by decide +kernel, by decide +kernel⟩, List.mem_of_getElem? (i := 832) (by decide +kernel), List.mem_of_getElem? (i := 1227) (by decide +kernel), List.mem_of_getElem? (i := 1228) (by decide +kernel)⟩
theorem lw_p58 : lw_okq (⟨"RicePriestsModel", "toldHere", "()V"⟩, 17) := ⟨⟨by decide +kernel, by decide +kernel⟩, List.mem_of_getElem? (i := 832) (by decide +kernel), List.mem_of_getElem? (i := 1234) (by decide +kernel), List.mem_of_getElem? (i := 1235) (by decide +kernel)⟩
theorem lw_p59 : lw_okq (⟨"RicePriestsModel", "holding", "()I"⟩, 17) := ⟨⟨by decide +kernel, by decide +kernel⟩, List.mem_of_getElem? (i := 832) (by decide +kernel), List.mem_of_getElem? (i := 1288) (by decide +kernel), List.mem_of_getElem? (i := 1289) (by decide +kernel)⟩
def lw_privs_4 : List (MethodName × Nat) := [(⟨"RicePriestsModel", "items", "()I"⟩, 17), (⟨"RicePriestsModel", "next", "()V"⟩, 17), (⟨"RicePriestsModel", "byteAt", "(I)I"⟩, 17), (⟨"RicePriestsModel", "item", "()V"⟩, 17), (⟨"RicePriestsModel", "kindHere", "()I"⟩, 17), (⟨"RicePriestsModel", "isWord", "(J)Z"⟩, 17), (⟨"RicePriestsModel", "priestHere", "(I)V"⟩, 17), (⟨"RicePriestsModel", "wrongHere", "()V"⟩, 17), (⟨"RicePriestsModel", "perhaps", "(JII)V"⟩, 17), (⟨"RicePriestsModel", "numberHere", "(I)I"⟩, 17), (⟨"RicePriestsModel", "toldHere", "()V"⟩, 17), (⟨"RicePriestsModel", "holding", "()I"⟩, 17)]
theorem lw_r4 : ∀ q ∈ lw_privs_4, lw_okq q := List.forall_mem_cons.mpr ⟨lw_p48, List.forall_mem_cons.mpr ⟨lw_p49, List.forall_mem_cons.mpr ⟨lw_p50, List.forall_mem_cons.mpr ⟨lw_p51, List.forall_mem_cons.mpr ⟨lw_p52, List.forall_mem_cons.mpr ⟨lw_p53, List.forall_mem_cons.mpr ⟨lw_p54, List.forall_mem_cons.mpr ⟨lw_p55, List.forall_mem_cons.mpr ⟨lw_p56, List.forall_mem_cons.mpr ⟨lw_p57, List.forall_mem_cons.mpr ⟨lw_p58, List.forall_mem_cons.mpr ⟨lw_p59, fun _ h => absurd h List.not_mem_nil⟩⟩⟩⟩⟩⟩⟩⟩⟩⟩⟩⟩
def lw_privs : List (MethodName × Nat) := lw_privs_1 ++ (lw_privs_2 ++ (lw_privs_3 ++ (lw_privs_4)))
def lw_tbl : List Cond := k2_sels lw_privs ++ tables_1
theorem lw_privs_ok : ∀ q ∈ lw_privs, lw_okq q := by
  show ∀ q ∈ lw_privs_1 ++ (lw_privs_2 ++ (lw_privs_3 ++ (lw_privs_4))), lw_okq q
  exact List.forall_mem_append.mpr ⟨lw_r1, List.forall_mem_append.mpr ⟨lw_r2, List.forall_mem_append.mpr ⟨lw_r3, lw_r4⟩⟩⟩
end
section
def RX0 : String := "RicePriests$Mission"
def TX0 : u_T := fun k => match k with
  | 0 => ("RicePriests$Mission", "day", "I", false)
  | 1 => ("RicePriests$Mission", "water", "I", false)
  | 2 => ("RicePriests$Mission", "out", "I", false)
  | 3 => ("RicePriests$Mission", "kept", "I", false)
  | 4 => ("RicePriests$Mission", "z", "I", false)
  | 5 => ("RicePriests$Mission", "priests", "I", false)
  | 6 => ("RicePriests$Mission", "list", "[I", true)
  | 7 => ("RicePriests$Mission", "spots", "[I", true)
  | _ => ("RicePriests$Mission", "row", "[LRicePriests$Priest;", true)
def tyX0 : Nat → FieldType := fun k => match k with
  | 0 => .int
  | 1 => .int
  | 2 => .int
  | 3 => .int
  | 4 => .int
  | 5 => .int
  | 6 => .array .int
  | 7 => .array .int
  | _ => .array (.object "RicePriests$Priest")
abbrev wsX00 : List Cond := u_ws RX0 TX0 9
theorem nmX0 : ∀ a, a < 9 → ∀ b, b < 9 → a ≠ b → (TX0 a).2.1 ≠ (TX0 b).2.1 := by decide +kernel
theorem tyX0_ok : ∀ k, k < 9 → parseFieldDescriptor (TX0 k).2.2.1 = some (tyX0 k) := by decide +kernel
abbrev cX0_init : ByteArray := prog_2_method_1_code
def yX0_init : MethodName := ⟨RX0, "<init>", "()V"⟩
abbrev cX0_becomeLike : ByteArray := prog_2_method_2_code
def yX0_becomeLike : MethodName := ⟨RX0, "becomeLike", "(LRicePriests$Mission;)V"⟩
abbrev cX0_at : ByteArray := prog_2_method_3_code
def yX0_at : MethodName := ⟨RX0, "at", "(I)LRicePriests$Priest;"⟩
abbrev cX0_welcome : ByteArray := prog_2_method_4_code
def yX0_welcome : MethodName := ⟨RX0, "welcome", "(II)I"⟩
abbrev cX0_tellOf : ByteArray := prog_2_method_5_code
def yX0_tellOf : MethodName := ⟨RX0, "tellOf", "(LRicePriests$Priest;I)I"⟩
abbrev cX0_placeToday : ByteArray := prog_2_method_6_code
def yX0_placeToday : MethodName := ⟨RX0, "placeToday", "()I"⟩
abbrev cX0_draw : ByteArray := prog_2_method_7_code
def yX0_draw : MethodName := ⟨RX0, "draw", "()I"⟩
abbrev cX0_takersOf : ByteArray := prog_2_method_8_code
def yX0_takersOf : MethodName := ⟨RX0, "takersOf", "(I)I"⟩
abbrev cX0_hungriestOf : ByteArray := prog_2_method_9_code
def yX0_hungriestOf : MethodName := ⟨RX0, "hungriestOf", "(I)I"⟩
abbrev cX0_bury : ByteArray := prog_2_method_10_code
def yX0_bury : MethodName := ⟨RX0, "bury", "(ILRicePriests$Priest;)I"⟩
abbrev cX0_passDays : ByteArray := prog_2_method_11_code
def yX0_passDays : MethodName := ⟨RX0, "passDays", "(I)V"⟩
abbrev cX0_passDay : ByteArray := prog_2_method_12_code
def yX0_passDay : MethodName := ⟨RX0, "passDay", "()V"⟩
abbrev cX0_letTheOverfullFallIll : ByteArray := prog_2_method_13_code
def yX0_letTheOverfullFallIll : MethodName := ⟨RX0, "letTheOverfullFallIll", "()V"⟩
abbrev cX0_letAllDigest : ByteArray := prog_2_method_14_code
def yX0_letAllDigest : MethodName := ⟨RX0, "letAllDigest", "()V"⟩
abbrev cX0_sinsTogether : ByteArray := prog_2_method_15_code
def yX0_sinsTogether : MethodName := ⟨RX0, "sinsTogether", "(I)I"⟩
abbrev cX0_sumTogether : ByteArray := prog_2_method_16_code
def yX0_sumTogether : MethodName := ⟨RX0, "sumTogether", "(I)I"⟩
abbrev cX0_fullest : ByteArray := prog_2_method_17_code
def yX0_fullest : MethodName := ⟨RX0, "fullest", "()I"⟩
abbrev cX0_spotsInUse : ByteArray := prog_2_method_18_code
def yX0_spotsInUse : MethodName := ⟨RX0, "spotsInUse", "()I"⟩
abbrev cX0_takeTogether : ByteArray := prog_2_method_19_code
def yX0_takeTogether : MethodName := ⟨RX0, "takeTogether", "(II)Z"⟩
abbrev cX0_fewestTaking : ByteArray := prog_2_method_20_code
def yX0_fewestTaking : MethodName := ⟨RX0, "fewestTaking", "(I)I"⟩
def RX1 : String := "RicePriests$Priest"
def TX1 : u_T := fun k => match k with
  | 0 => ("RicePriests$Priest", "kind", "I", false)
  | 1 => ("RicePriests$Priest", "stuffed", "I", false)
  | 2 => ("RicePriests$Priest", "takes", "I", false)
  | 3 => ("RicePriests$Priest", "knows", "I", false)
  | 4 => ("RicePriests$Priest", "heard", "I", false)
  | _ => ("RicePriests$Priest", "ill", "I", false)
def tyX1 : Nat → FieldType := fun k => match k with
  | 0 => .int
  | 1 => .int
  | 2 => .int
  | 3 => .int
  | 4 => .int
  | _ => .int
abbrev wsX10 : List Cond := u_ws RX1 TX1 6
theorem nmX1 : ∀ a, a < 6 → ∀ b, b < 6 → a ≠ b → (TX1 a).2.1 ≠ (TX1 b).2.1 := by decide +kernel
theorem tyX1_ok : ∀ k, k < 6 → parseFieldDescriptor (TX1 k).2.2.1 = some (tyX1 k) := by decide +kernel
abbrev cX1_init : ByteArray := prog_3_method_1_code
def yX1_init : MethodName := ⟨RX1, "<init>", "()V"⟩
abbrev cX1_isKind : ByteArray := prog_3_method_2_code
def yX1_isKind : MethodName := ⟨RX1, "isKind", "(I)Z"⟩
abbrev cX1_mayBe : ByteArray := prog_3_method_3_code
def yX1_mayBe : MethodName := ⟨RX1, "mayBe", "(II)Z"⟩
abbrev cX1_begin : ByteArray := prog_3_method_4_code
def yX1_begin : MethodName := ⟨RX1, "begin", "(II)V"⟩
abbrev cX1_becomeLike : ByteArray := prog_3_method_5_code
def yX1_becomeLike : MethodName := ⟨RX1, "becomeLike", "(LRicePriests$Priest;)V"⟩
abbrev cX1_put : ByteArray := prog_3_method_6_code
def yX1_put : MethodName := ⟨RX1, "put", "(II)V"⟩
abbrev cX1_isOneOf : ByteArray := prog_3_method_7_code
def yX1_isOneOf : MethodName := ⟨RX1, "isOneOf", "(I)Z"⟩
abbrev cX1_holding : ByteArray := prog_3_method_8_code
def yX1_holding : MethodName := ⟨RX1, "holding", "()I"⟩
abbrev cX1_swelling : ByteArray := prog_3_method_9_code
def yX1_swelling : MethodName := ⟨RX1, "swelling", "(III)I"⟩
abbrev cX1_digesting : ByteArray := prog_3_method_10_code
def yX1_digesting : MethodName := ⟨RX1, "digesting", "(II)I"⟩
abbrev cX1_keepsSilent : ByteArray := prog_3_method_11_code
def yX1_keepsSilent : MethodName := ⟨RX1, "keepsSilent", "()Z"⟩
abbrev cX1_eat : ByteArray := prog_3_method_12_code
def yX1_eat : MethodName := ⟨RX1, "eat", "(III)V"⟩
abbrev cX1_fallIll : ByteArray := prog_3_method_13_code
def yX1_fallIll : MethodName := ⟨RX1, "fallIll", "()V"⟩
def RX2 : String := "RicePriests$Reader"
def TX2 : u_T := fun k => match k with
  | 0 => ("RicePriests$Reader", "tape", "LRicePriests$Tape;", true)
  | 1 => ("RicePriests$Reader", "token", "I", false)
  | 2 => ("RicePriests$Reader", "start", "I", false)
  | 3 => ("RicePriests$Reader", "end", "I", false)
  | 4 => ("RicePriests$Reader", "value", "I", false)
  | _ => ("RicePriests$Reader", "got", "I", false)
def tyX2 : Nat → FieldType := fun k => match k with
  | 0 => .object "RicePriests$Tape"
  | 1 => .int
  | 2 => .int
  | 3 => .int
  | 4 => .int
  | _ => .int
abbrev wsX20 : List Cond := u_ws RX2 TX2 6
theorem nmX2 : ∀ a, a < 6 → ∀ b, b < 6 → a ≠ b → (TX2 a).2.1 ≠ (TX2 b).2.1 := by decide +kernel
theorem tyX2_ok : ∀ k, k < 6 → parseFieldDescriptor (TX2 k).2.2.1 = some (tyX2 k) := by decide +kernel
abbrev cX2_init : ByteArray := prog_4_method_1_code
def yX2_init : MethodName := ⟨RX2, "<init>", "()V"⟩
abbrev cX2_readInto : ByteArray := prog_4_method_2_code
def yX2_readInto : MethodName := ⟨RX2, "readInto", "(LRicePriests$Mission;)I"⟩
abbrev cX2_readItem : ByteArray := prog_4_method_3_code
def yX2_readItem : MethodName := ⟨RX2, "readItem", "(LRicePriests$Mission;)Z"⟩
abbrev cX2_readWater : ByteArray := prog_4_method_4_code
def yX2_readWater : MethodName := ⟨RX2, "readWater", "(LRicePriests$Mission;)Z"⟩
abbrev cX2_readOut : ByteArray := prog_4_method_5_code
def yX2_readOut : MethodName := ⟨RX2, "readOut", "(LRicePriests$Mission;)Z"⟩
abbrev cX2_readTold : ByteArray := prog_4_method_6_code
def yX2_readTold : MethodName := ⟨RX2, "readTold", "(LRicePriests$Mission;)Z"⟩
abbrev cX2_readPriest : ByteArray := prog_4_method_7_code
def yX2_readPriest : MethodName := ⟨RX2, "readPriest", "(LRicePriests$Mission;)Z"⟩
abbrev cX2_readPerhaps : ByteArray := prog_4_method_8_code
def yX2_readPerhaps : MethodName := ⟨RX2, "readPerhaps", "(Ljava/lang/String;LRicePriests$Priest;I)Z"⟩
abbrev cX2_kindAtHand : ByteArray := prog_4_method_9_code
def yX2_kindAtHand : MethodName := ⟨RX2, "kindAtHand", "()I"⟩
abbrev cX2_wordOf : ByteArray := prog_4_method_10_code
def yX2_wordOf : MethodName := ⟨RX2, "wordOf", "(I)Ljava/lang/String;"⟩
abbrev cX2_isWord : ByteArray := prog_4_method_11_code
def yX2_isWord : MethodName := ⟨RX2, "isWord", "(Ljava/lang/String;)Z"⟩
abbrev cX2_readNumber : ByteArray := prog_4_method_12_code
def yX2_readNumber : MethodName := ⟨RX2, "readNumber", "(I)Z"⟩
abbrev cX2_advance : ByteArray := prog_4_method_13_code
def yX2_advance : MethodName := ⟨RX2, "advance", "()V"⟩
abbrev cX2_isLetter : ByteArray := prog_4_method_14_code
def yX2_isLetter : MethodName := ⟨RX2, "isLetter", "(I)Z"⟩
abbrev cX2_isDigit : ByteArray := prog_4_method_15_code
def yX2_isDigit : MethodName := ⟨RX2, "isDigit", "(I)Z"⟩
def RX3 : String := "RicePriests$Seer"
def TX3 : u_T := fun k => match k with
  | _ => ("RicePriests$Seer", "dream", "LRicePriests$Mission;", true)
def tyX3 : Nat → FieldType := fun k => match k with
  | _ => .object "RicePriests$Mission"
abbrev wsX30 : List Cond := u_ws RX3 TX3 1
theorem nmX3 : ∀ a, a < 1 → ∀ b, b < 1 → a ≠ b → (TX3 a).2.1 ≠ (TX3 b).2.1 := by decide +kernel
theorem tyX3_ok : ∀ k, k < 1 → parseFieldDescriptor (TX3 k).2.2.1 = some (tyX3 k) := by decide +kernel
abbrev cX3_init : ByteArray := prog_5_method_1_code
def yX3_init : MethodName := ⟨RX3, "<init>", "()V"⟩
abbrev cX3_dreamOf : ByteArray := prog_5_method_2_code
def yX3_dreamOf : MethodName := ⟨RX3, "dreamOf", "(LRicePriests$Mission;)LRicePriests$Mission;"⟩
abbrev cX3_tellBehind : ByteArray := prog_5_method_3_code
def yX3_tellBehind : MethodName := ⟨RX3, "tellBehind", "(LRicePriests$Mission;III)I"⟩
abbrev cX3_daysTillIll : ByteArray := prog_5_method_4_code
def yX3_daysTillIll : MethodName := ⟨RX3, "daysTillIll", "(LRicePriests$Mission;I)I"⟩
abbrev cX3_daysTillOut : ByteArray := prog_5_method_5_code
def yX3_daysTillOut : MethodName := ⟨RX3, "daysTillOut", "(LRicePriests$Mission;I)I"⟩
abbrev cX3_daysTillWise : ByteArray := prog_5_method_6_code
def yX3_daysTillWise : MethodName := ⟨RX3, "daysTillWise", "(LRicePriests$Mission;II)I"⟩
abbrev cX3_daysTillStuffed : ByteArray := prog_5_method_7_code
def yX3_daysTillStuffed : MethodName := ⟨RX3, "daysTillStuffed", "(LRicePriests$Mission;II)I"⟩
abbrev cX3_mostHarmlessWords : ByteArray := prog_5_method_8_code
def yX3_mostHarmlessWords : MethodName := ⟨RX3, "mostHarmlessWords", "(LRicePriests$Mission;II)I"⟩
abbrev cX3_staysQuiet : ByteArray := prog_5_method_9_code
def yX3_staysQuiet : MethodName := ⟨RX3, "staysQuiet", "(I)Z"⟩
abbrev cX3_leastQuietWater : ByteArray := prog_5_method_10_code
def yX3_leastQuietWater : MethodName := ⟨RX3, "leastQuietWater", "(LRicePriests$Mission;I)I"⟩
abbrev cX3_sinToSpare : ByteArray := prog_5_method_11_code
def yX3_sinToSpare : MethodName := ⟨RX3, "sinToSpare", "(LRicePriests$Mission;II)I"⟩
abbrev cX3_healthiestKind : ByteArray := prog_5_method_12_code
def yX3_healthiestKind : MethodName := ⟨RX3, "healthiestKind", "(LRicePriests$Mission;II)I"⟩
abbrev cX3_makeFast : ByteArray := prog_5_method_13_code
def yX3_makeFast : MethodName := ⟨RX3, "makeFast", "(I)V"⟩
abbrev cX3_fewestFasting : ByteArray := prog_5_method_14_code
def yX3_fewestFasting : MethodName := ⟨RX3, "fewestFasting", "(LRicePriests$Mission;I)I"⟩
abbrev cX3_dreamsAsTold : ByteArray := prog_5_method_15_code
def yX3_dreamsAsTold : MethodName := ⟨RX3, "dreamsAsTold", "(ILRicePriests$Sheet;)Z"⟩
abbrev cX3_fittingWords : ByteArray := prog_5_method_16_code
def yX3_fittingWords : MethodName := ⟨RX3, "fittingWords", "(LRicePriests$Mission;ILRicePriests$Sheet;)J"⟩
abbrev cX3_fittingKinds : ByteArray := prog_5_method_17_code
def yX3_fittingKinds : MethodName := ⟨RX3, "fittingKinds", "(LRicePriests$Mission;ILRicePriests$Sheet;)I"⟩
def RX4 : String := "RicePriests$Sheet"
def TX4 : u_T := fun k => match k with
  | 0 => ("RicePriests$Sheet", "bits", "I", false)
  | 1 => ("RicePriests$Sheet", "size", "I", false)
  | _ => ("RicePriests$Sheet", "numbers", "[I", true)
def tyX4 : Nat → FieldType := fun k => match k with
  | 0 => .int
  | 1 => .int
  | _ => .array .int
abbrev wsX40 : List Cond := u_ws RX4 TX4 3
theorem nmX4 : ∀ a, a < 3 → ∀ b, b < 3 → a ≠ b → (TX4 a).2.1 ≠ (TX4 b).2.1 := by decide +kernel
theorem tyX4_ok : ∀ k, k < 3 → parseFieldDescriptor (TX4 k).2.2.1 = some (tyX4 k) := by decide +kernel
abbrev cX4_init : ByteArray := prog_6_method_1_code
def yX4_init : MethodName := ⟨RX4, "<init>", "()V"⟩
abbrev cX4_mayHaveBits : ByteArray := prog_6_method_2_code
def yX4_mayHaveBits : MethodName := ⟨RX4, "mayHaveBits", "(I)Z"⟩
abbrev cX4_isMissing : ByteArray := prog_6_method_3_code
def yX4_isMissing : MethodName := ⟨RX4, "isMissing", "()Z"⟩
abbrev cX4_begin : ByteArray := prog_6_method_4_code
def yX4_begin : MethodName := ⟨RX4, "begin", "(II)V"⟩
abbrev cX4_put : ByteArray := prog_6_method_5_code
def yX4_put : MethodName := ⟨RX4, "put", "(II)Z"⟩
abbrev cX4_cut : ByteArray := prog_6_method_6_code
def yX4_cut : MethodName := ⟨RX4, "cut", "(I)I"⟩
abbrev cX4_has : ByteArray := prog_6_method_7_code
def yX4_has : MethodName := ⟨RX4, "has", "(II)Z"⟩
def RX5 : String := "RicePriests$Tape"
def TX5 : u_T := fun k => match k with
  | 0 => ("RicePriests$Tape", "bytes", "[B", true)
  | _ => ("RicePriests$Tape", "length", "I", false)
def tyX5 : Nat → FieldType := fun k => match k with
  | 0 => .array .byte
  | _ => .int
abbrev wsX50 : List Cond := u_ws RX5 TX5 2
theorem nmX5 : ∀ a, a < 2 → ∀ b, b < 2 → a ≠ b → (TX5 a).2.1 ≠ (TX5 b).2.1 := by decide +kernel
theorem tyX5_ok : ∀ k, k < 2 → parseFieldDescriptor (TX5 k).2.2.1 = some (tyX5 k) := by decide +kernel
abbrev cX5_init : ByteArray := prog_7_method_1_code
def yX5_init : MethodName := ⟨RX5, "<init>", "()V"⟩
abbrev cX5_append : ByteArray := prog_7_method_2_code
def yX5_append : MethodName := ⟨RX5, "append", "(II)Z"⟩
abbrev cX5_empty : ByteArray := prog_7_method_3_code
def yX5_empty : MethodName := ⟨RX5, "empty", "()I"⟩
abbrev cX5_byteAt : ByteArray := prog_7_method_4_code
def yX5_byteAt : MethodName := ⟨RX5, "byteAt", "(I)I"⟩
def RX6 : String := "RicePriests"
def TX6 : u_T := fun k => match k with
  | 0 => ("RicePriests", "mission", "LRicePriests$Mission;", true)
  | 1 => ("RicePriests", "imageKept", "LRicePriests$Mission;", true)
  | 2 => ("RicePriests", "hasImage", "Z", false)
  | 3 => ("RicePriests", "seer", "LRicePriests$Seer;", true)
  | 4 => ("RicePriests", "reader", "LRicePriests$Reader;", true)
  | 5 => ("RicePriests", "sheets", "[LRicePriests$Sheet;", true)
  | _ => ("RicePriests", "told", "[I", true)
def tyX6 : Nat → FieldType := fun k => match k with
  | 0 => .object "RicePriests$Mission"
  | 1 => .object "RicePriests$Mission"
  | 2 => .boolean
  | 3 => .object "RicePriests$Seer"
  | 4 => .object "RicePriests$Reader"
  | 5 => .array (.object "RicePriests$Sheet")
  | _ => .array .int
abbrev wsX60 : List Cond := u_ws RX6 TX6 7
theorem nmX6 : ∀ a, a < 7 → ∀ b, b < 7 → a ≠ b → (TX6 a).2.1 ≠ (TX6 b).2.1 := by decide +kernel
theorem tyX6_ok : ∀ k, k < 7 → parseFieldDescriptor (TX6 k).2.2.1 = some (tyX6 k) := by decide +kernel
abbrev cX6_init : ByteArray := prog_1_method_1_code
def yX6_init : MethodName := ⟨RX6, "<init>", "()V"⟩
abbrev cX6_set : ByteArray := prog_1_method_2_code
def yX6_set : MethodName := ⟨RX6, "set", "(II)I"⟩
abbrev cX6_list : ByteArray := prog_1_method_3_code
def yX6_list : MethodName := ⟨RX6, "list", "(II)I"⟩
abbrev cX6_listed : ByteArray := prog_1_method_4_code
def yX6_listed : MethodName := ⟨RX6, "listed", "(I)I"⟩
abbrev cX6_priest : ByteArray := prog_1_method_5_code
def yX6_priest : MethodName := ⟨RX6, "priest", "(II)I"⟩
abbrev cX6_of : ByteArray := prog_1_method_6_code
def yX6_of : MethodName := ⟨RX6, "of", "(II)I"⟩
abbrev cX6_change : ByteArray := prog_1_method_7_code
def yX6_change : MethodName := ⟨RX6, "change", "(III)I"⟩
abbrev cX6_swells : ByteArray := prog_1_method_8_code
def yX6_swells : MethodName := ⟨RX6, "swells", "(II)I"⟩
abbrev cX6_goes : ByteArray := prog_1_method_9_code
def yX6_goes : MethodName := ⟨RX6, "goes", "(I)I"⟩
abbrev cX6_dies : ByteArray := prog_1_method_10_code
def yX6_dies : MethodName := ⟨RX6, "dies", "(I)I"⟩
abbrev cX6_go : ByteArray := prog_1_method_11_code
def yX6_go : MethodName := ⟨RX6, "go", "(I)I"⟩
abbrev cX6_now : ByteArray := prog_1_method_12_code
def yX6_now : MethodName := ⟨RX6, "now", "(I)I"⟩
abbrev cX6_ahead : ByteArray := prog_1_method_13_code
def yX6_ahead : MethodName := ⟨RX6, "ahead", "(III)I"⟩
abbrev cX6_ill : ByteArray := prog_1_method_14_code
def yX6_ill : MethodName := ⟨RX6, "ill", "(I)I"⟩
abbrev cX6_out : ByteArray := prog_1_method_15_code
def yX6_out : MethodName := ⟨RX6, "out", "(I)I"⟩
abbrev cX6_wise : ByteArray := prog_1_method_16_code
def yX6_wise : MethodName := ⟨RX6, "wise", "(II)I"⟩
abbrev cX6_when : ByteArray := prog_1_method_17_code
def yX6_when : MethodName := ⟨RX6, "when", "(II)I"⟩
abbrev cX6_wordsFor : ByteArray := prog_1_method_18_code
def yX6_wordsFor : MethodName := ⟨RX6, "wordsFor", "(II)I"⟩
abbrev cX6_waterFor : ByteArray := prog_1_method_19_code
def yX6_waterFor : MethodName := ⟨RX6, "waterFor", "(I)I"⟩
abbrev cX6_spare : ByteArray := prog_1_method_20_code
def yX6_spare : MethodName := ⟨RX6, "spare", "(II)I"⟩
abbrev cX6_kindFor : ByteArray := prog_1_method_21_code
def yX6_kindFor : MethodName := ⟨RX6, "kindFor", "(II)I"⟩
abbrev cX6_fast : ByteArray := prog_1_method_22_code
def yX6_fast : MethodName := ⟨RX6, "fast", "(I)I"⟩
abbrev cX6_cover : ByteArray := prog_1_method_23_code
def yX6_cover : MethodName := ⟨RX6, "cover", "(I)I"⟩
abbrev cX6_fits : ByteArray := prog_1_method_24_code
def yX6_fits : MethodName := ⟨RX6, "fits", "(II)I"⟩
abbrev cX6_words : ByteArray := prog_1_method_25_code
def yX6_words : MethodName := ⟨RX6, "words", "(II)I"⟩
abbrev cX6_kinds : ByteArray := prog_1_method_26_code
def yX6_kinds : MethodName := ⟨RX6, "kinds", "(II)I"⟩
abbrev cX6_come : ByteArray := prog_1_method_27_code
def yX6_come : MethodName := ⟨RX6, "come", "(I)I"⟩
abbrev cX6_odds : ByteArray := prog_1_method_28_code
def yX6_odds : MethodName := ⟨RX6, "odds", "(III)J"⟩
abbrev cX6_seed : ByteArray := prog_1_method_29_code
def yX6_seed : MethodName := ⟨RX6, "seed", "(I)I"⟩
abbrev cX6_feed : ByteArray := prog_1_method_30_code
def yX6_feed : MethodName := ⟨RX6, "feed", "(II)I"⟩
abbrev cX6_wipe : ByteArray := prog_1_method_31_code
def yX6_wipe : MethodName := ⟨RX6, "wipe", "()I"⟩
abbrev cX6_text : ByteArray := prog_1_method_32_code
def yX6_text : MethodName := ⟨RX6, "text", "()I"⟩
abbrev cX6_hold : ByteArray := prog_1_method_33_code
def yX6_hold : MethodName := ⟨RX6, "hold", "(II)I"⟩
abbrev cX6_as : ByteArray := prog_1_method_34_code
def yX6_as : MethodName := ⟨RX6, "as", "(II)I"⟩
abbrev cX6_sheet : ByteArray := prog_1_method_35_code
def yX6_sheet : MethodName := ⟨RX6, "sheet", "(III)I"⟩
abbrev cX6_write : ByteArray := prog_1_method_36_code
def yX6_write : MethodName := ⟨RX6, "write", "(III)I"⟩
abbrev cX6_copy : ByteArray := prog_1_method_37_code
def yX6_copy : MethodName := ⟨RX6, "copy", "(IIIII)I"⟩
abbrev cX6_load : ByteArray := prog_1_method_38_code
def yX6_load : MethodName := ⟨RX6, "load", "(I)I"⟩
abbrev cX6_judge : ByteArray := prog_1_method_39_code
def yX6_judge : MethodName := ⟨RX6, "judge", "(I)I"⟩
abbrev cX6_image : ByteArray := prog_1_method_40_code
def yX6_image : MethodName := ⟨RX6, "image", "()I"⟩
abbrev cX6_undo : ByteArray := prog_1_method_41_code
def yX6_undo : MethodName := ⟨RX6, "undo", "()I"⟩
abbrev cX6_tear : ByteArray := prog_1_method_42_code
def yX6_tear : MethodName := ⟨RX6, "tear", "()I"⟩
abbrev cX6_count : ByteArray := prog_1_method_43_code
def yX6_count : MethodName := ⟨RX6, "count", "(I)I"⟩
abbrev cX6_status : ByteArray := prog_1_method_44_code
def yX6_status : MethodName := ⟨RX6, "status", "(I)I"⟩
abbrev cX6_tell : ByteArray := prog_1_method_45_code
def yX6_tell : MethodName := ⟨RX6, "tell", "(I)I"⟩
abbrev cX6_orNone : ByteArray := prog_1_method_46_code
def yX6_orNone : MethodName := ⟨RX6, "orNone", "(I)I"⟩
abbrev cX6_sheetAt : ByteArray := prog_1_method_47_code
def yX6_sheetAt : MethodName := ⟨RX6, "sheetAt", "(I)LRicePriests$Sheet;"⟩
abbrev cX6_wrongSheet : ByteArray := prog_1_method_48_code
def yX6_wrongSheet : MethodName := ⟨RX6, "wrongSheet", "(LRicePriests$Sheet;)I"⟩
abbrev cX6_wrongFulness : ByteArray := prog_1_method_49_code
def yX6_wrongFulness : MethodName := ⟨RX6, "wrongFulness", "(LRicePriests$Sheet;I)I"⟩
abbrev cX6_within : ByteArray := prog_1_method_50_code
def yX6_within : MethodName := ⟨RX6, "within", "(II)Z"⟩
abbrev cX6_isConfession : ByteArray := prog_1_method_51_code
def yX6_isConfession : MethodName := ⟨RX6, "isConfession", "(I)Z"⟩
abbrev cX6_confessionOf : ByteArray := prog_1_method_52_code
def yX6_confessionOf : MethodName := ⟨RX6, "confessionOf", "(II)I"⟩
abbrev cX6_sinOf : ByteArray := prog_1_method_53_code
def yX6_sinOf : MethodName := ⟨RX6, "sinOf", "(I)I"⟩
abbrev cX6_wordsOf : ByteArray := prog_1_method_54_code
def yX6_wordsOf : MethodName := ⟨RX6, "wordsOf", "(I)I"⟩
abbrev cX6_changesByDays : ByteArray := prog_1_method_55_code
def yX6_changesByDays : MethodName := ⟨RX6, "changesByDays", "(I)Z"⟩
abbrev cX6_power : ByteArray := prog_1_method_56_code
def yX6_power : MethodName := ⟨RX6, "power", "(II)J"⟩
def RX7 : String := "RicePriestsModel"
def TX7 : u_T := fun k => match k with
  | 0 => ("RicePriestsModel", "d", "[I", true)
  | 1 => ("RicePriestsModel", "e", "[I", true)
  | 2 => ("RicePriestsModel", "aside", "[I", true)
  | 3 => ("RicePriestsModel", "kept", "[I", true)
  | 4 => ("RicePriestsModel", "isKept", "Z", false)
  | 5 => ("RicePriestsModel", "found", "[I", true)
  | 6 => ("RicePriestsModel", "tape", "[B", true)
  | 7 => ("RicePriestsModel", "taped", "I", false)
  | 8 => ("RicePriestsModel", "at", "I", false)
  | 9 => ("RicePriestsModel", "sort", "I", false)
  | 10 => ("RicePriestsModel", "from", "I", false)
  | 11 => ("RicePriestsModel", "value", "J", false)
  | 12 => ("RicePriestsModel", "fault", "I", false)
  | 13 => ("RicePriestsModel", "bitsOf", "[I", true)
  | 14 => ("RicePriestsModel", "sizeOf", "[I", true)
  | 15 => ("RicePriestsModel", "number", "[I", true)
  | _ => ("RicePriestsModel", "passing", "[I", true)
def tyX7 : Nat → FieldType := fun k => match k with
  | 0 => .array .int
  | 1 => .array .int
  | 2 => .array .int
  | 3 => .array .int
  | 4 => .boolean
  | 5 => .array .int
  | 6 => .array .byte
  | 7 => .int
  | 8 => .int
  | 9 => .int
  | 10 => .int
  | 11 => .long
  | 12 => .int
  | 13 => .array .int
  | 14 => .array .int
  | 15 => .array .int
  | _ => .array .int
abbrev wsX70 : List Cond := u_ws RX7 TX7 17
theorem nmX7 : ∀ a, a < 17 → ∀ b, b < 17 → a ≠ b → (TX7 a).2.1 ≠ (TX7 b).2.1 := by decide +kernel
theorem tyX7_ok : ∀ k, k < 17 → parseFieldDescriptor (TX7 k).2.2.1 = some (tyX7 k) := by decide +kernel
abbrev cX7_init : ByteArray := prog_9_method_1_code
def yX7_init : MethodName := ⟨RX7, "<init>", "()V"⟩
abbrev cX7_finds : ByteArray := prog_9_method_3_code
def yX7_finds : MethodName := ⟨RX7, "finds", "(I)I"⟩
abbrev cX7_in : ByteArray := prog_9_method_4_code
def yX7_in : MethodName := ⟨RX7, "in", "(JJJ)Z"⟩
abbrev cX7_held : ByteArray := prog_9_method_5_code
def yX7_held : MethodName := ⟨RX7, "held", "(III)I"⟩
abbrev cX7_copies : ByteArray := prog_9_method_6_code
def yX7_copies : MethodName := ⟨RX7, "copies", "([I[I)V"⟩
abbrev cX7_isPriest : ByteArray := prog_9_method_7_code
def yX7_isPriest : MethodName := ⟨RX7, "isPriest", "(I)Z"⟩
abbrev cX7_isSin : ByteArray := prog_9_method_8_code
def yX7_isSin : MethodName := ⟨RX7, "isSin", "(I)Z"⟩
abbrev cX7_isPlace : ByteArray := prog_9_method_9_code
def yX7_isPlace : MethodName := ⟨RX7, "isPlace", "(I)Z"⟩
abbrev cX7_areSins : ByteArray := prog_9_method_10_code
def yX7_areSins : MethodName := ⟨RX7, "areSins", "(I)Z"⟩
abbrev cX7_isConfession : ByteArray := prog_9_method_11_code
def yX7_isConfession : MethodName := ⟨RX7, "isConfession", "(I)Z"⟩
abbrev cX7_its : ByteArray := prog_9_method_12_code
def yX7_its : MethodName := ⟨RX7, "its", "(II)I"⟩
abbrev cX7_sets : ByteArray := prog_9_method_13_code
def yX7_sets : MethodName := ⟨RX7, "sets", "(III)V"⟩
abbrev cX7_becomes : ByteArray := prog_9_method_14_code
def yX7_becomes : MethodName := ⟨RX7, "becomes", "(II)I"⟩
abbrev cX7_ones : ByteArray := prog_9_method_15_code
def yX7_ones : MethodName := ⟨RX7, "ones", "(I)I"⟩
abbrev cX7_holds : ByteArray := prog_9_method_16_code
def yX7_holds : MethodName := ⟨RX7, "holds", "(I)I"⟩
abbrev cX7_room : ByteArray := prog_9_method_17_code
def yX7_room : MethodName := ⟨RX7, "room", "(I)I"⟩
abbrev cX7_swellsBy : ByteArray := prog_9_method_18_code
def yX7_swellsBy : MethodName := ⟨RX7, "swellsBy", "(III)I"⟩
abbrev cX7_digests : ByteArray := prog_9_method_19_code
def yX7_digests : MethodName := ⟨RX7, "digests", "(I)I"⟩
abbrev cX7_keeps : ByteArray := prog_9_method_20_code
def yX7_keeps : MethodName := ⟨RX7, "keeps", "(I)Z"⟩
abbrev cX7_roomiest : ByteArray := prog_9_method_21_code
def yX7_roomiest : MethodName := ⟨RX7, "roomiest", "(II)I"⟩
abbrev cX7_todays : ByteArray := prog_9_method_22_code
def yX7_todays : MethodName := ⟨RX7, "todays", "()I"⟩
abbrev cX7_confesses : ByteArray := prog_9_method_23_code
def yX7_confesses : MethodName := ⟨RX7, "confesses", "(I)V"⟩
abbrev cX7_dayGoes : ByteArray := prog_9_method_24_code
def yX7_dayGoes : MethodName := ⟨RX7, "dayGoes", "()V"⟩
abbrev cX7_daysGo : ByteArray := prog_9_method_25_code
def yX7_daysGo : MethodName := ⟨RX7, "daysGo", "(I)V"⟩
abbrev cX7_sumOf : ByteArray := prog_9_method_26_code
def yX7_sumOf : MethodName := ⟨RX7, "sumOf", "(I)I"⟩
abbrev cX7_together : ByteArray := prog_9_method_27_code
def yX7_together : MethodName := ⟨RX7, "together", "(I)I"⟩
abbrev cX7_set : ByteArray := prog_9_method_28_code
def yX7_set : MethodName := ⟨RX7, "set", "(II)I"⟩
abbrev cX7_list : ByteArray := prog_9_method_29_code
def yX7_list : MethodName := ⟨RX7, "list", "(II)I"⟩
abbrev cX7_listed : ByteArray := prog_9_method_30_code
def yX7_listed : MethodName := ⟨RX7, "listed", "(I)I"⟩
abbrev cX7_comes : ByteArray := prog_9_method_31_code
def yX7_comes : MethodName := ⟨RX7, "comes", "(II)I"⟩
abbrev cX7_priest : ByteArray := prog_9_method_32_code
def yX7_priest : MethodName := ⟨RX7, "priest", "(II)I"⟩
abbrev cX7_of : ByteArray := prog_9_method_33_code
def yX7_of : MethodName := ⟨RX7, "of", "(II)I"⟩
abbrev cX7_mostOf : ByteArray := prog_9_method_34_code
def yX7_mostOf : MethodName := ⟨RX7, "mostOf", "(I)I"⟩
abbrev cX7_change : ByteArray := prog_9_method_35_code
def yX7_change : MethodName := ⟨RX7, "change", "(III)I"⟩
abbrev cX7_swells : ByteArray := prog_9_method_36_code
def yX7_swells : MethodName := ⟨RX7, "swells", "(II)I"⟩
abbrev cX7_goes : ByteArray := prog_9_method_37_code
def yX7_goes : MethodName := ⟨RX7, "goes", "(I)I"⟩
abbrev cX7_dies : ByteArray := prog_9_method_38_code
def yX7_dies : MethodName := ⟨RX7, "dies", "(I)I"⟩
abbrev cX7_go : ByteArray := prog_9_method_39_code
def yX7_go : MethodName := ⟨RX7, "go", "(I)I"⟩
abbrev cX7_fullest : ByteArray := prog_9_method_40_code
def yX7_fullest : MethodName := ⟨RX7, "fullest", "()I"⟩
abbrev cX7_now : ByteArray := prog_9_method_41_code
def yX7_now : MethodName := ⟨RX7, "now", "(I)I"⟩
abbrev cX7_behind : ByteArray := prog_9_method_42_code
def yX7_behind : MethodName := ⟨RX7, "behind", "(II)I"⟩
abbrev cX7_ahead : ByteArray := prog_9_method_43_code
def yX7_ahead : MethodName := ⟨RX7, "ahead", "(III)I"⟩
abbrev cX7_firstOf : ByteArray := prog_9_method_44_code
def yX7_firstOf : MethodName := ⟨RX7, "firstOf", "(III)I"⟩
abbrev cX7_ill : ByteArray := prog_9_method_45_code
def yX7_ill : MethodName := ⟨RX7, "ill", "(I)I"⟩
abbrev cX7_out : ByteArray := prog_9_method_46_code
def yX7_out : MethodName := ⟨RX7, "out", "(I)I"⟩
abbrev cX7_wise : ByteArray := prog_9_method_47_code
def yX7_wise : MethodName := ⟨RX7, "wise", "(II)I"⟩
abbrev cX7_when : ByteArray := prog_9_method_48_code
def yX7_when : MethodName := ⟨RX7, "when", "(II)I"⟩
abbrev cX7_isShort : ByteArray := prog_9_method_49_code
def yX7_isShort : MethodName := ⟨RX7, "isShort", "(I)Z"⟩
abbrev cX7_illBehind : ByteArray := prog_9_method_50_code
def yX7_illBehind : MethodName := ⟨RX7, "illBehind", "(I)I"⟩
abbrev cX7_wordsFor : ByteArray := prog_9_method_51_code
def yX7_wordsFor : MethodName := ⟨RX7, "wordsFor", "(II)I"⟩
abbrev cX7_waterFor : ByteArray := prog_9_method_52_code
def yX7_waterFor : MethodName := ⟨RX7, "waterFor", "(I)I"⟩
abbrev cX7_spare : ByteArray := prog_9_method_53_code
def yX7_spare : MethodName := ⟨RX7, "spare", "(II)I"⟩
abbrev cX7_kindFor : ByteArray := prog_9_method_54_code
def yX7_kindFor : MethodName := ⟨RX7, "kindFor", "(II)I"⟩
abbrev cX7_fast : ByteArray := prog_9_method_55_code
def yX7_fast : MethodName := ⟨RX7, "fast", "(I)I"⟩
abbrev cX7_cover : ByteArray := prog_9_method_56_code
def yX7_cover : MethodName := ⟨RX7, "cover", "(I)I"⟩
abbrev cX7_whyNot : ByteArray := prog_9_method_57_code
def yX7_whyNot : MethodName := ⟨RX7, "whyNot", "(II)I"⟩
abbrev cX7_isTold : ByteArray := prog_9_method_58_code
def yX7_isTold : MethodName := ⟨RX7, "isTold", "(II)Z"⟩
abbrev cX7_isOf : ByteArray := prog_9_method_59_code
def yX7_isOf : MethodName := ⟨RX7, "isOf", "(III)Z"⟩
abbrev cX7_fits : ByteArray := prog_9_method_60_code
def yX7_fits : MethodName := ⟨RX7, "fits", "(II)I"⟩
abbrev cX7_words : ByteArray := prog_9_method_61_code
def yX7_words : MethodName := ⟨RX7, "words", "(II)I"⟩
abbrev cX7_kinds : ByteArray := prog_9_method_62_code
def yX7_kinds : MethodName := ⟨RX7, "kinds", "(II)I"⟩
abbrev cX7_draw : ByteArray := prog_9_method_63_code
def yX7_draw : MethodName := ⟨RX7, "draw", "()I"⟩
abbrev cX7_come : ByteArray := prog_9_method_64_code
def yX7_come : MethodName := ⟨RX7, "come", "(I)I"⟩
abbrev cX7_odds : ByteArray := prog_9_method_65_code
def yX7_odds : MethodName := ⟨RX7, "odds", "(III)J"⟩
abbrev cX7_seed : ByteArray := prog_9_method_66_code
def yX7_seed : MethodName := ⟨RX7, "seed", "(I)I"⟩
abbrev cX7_feed : ByteArray := prog_9_method_67_code
def yX7_feed : MethodName := ⟨RX7, "feed", "(II)I"⟩
abbrev cX7_wipe : ByteArray := prog_9_method_68_code
def yX7_wipe : MethodName := ⟨RX7, "wipe", "()I"⟩
abbrev cX7_letter : ByteArray := prog_9_method_69_code
def yX7_letter : MethodName := ⟨RX7, "letter", "(I)I"⟩
abbrev cX7_isDigit : ByteArray := prog_9_method_70_code
def yX7_isDigit : MethodName := ⟨RX7, "isDigit", "(I)Z"⟩
abbrev cX7_byteAt : ByteArray := prog_9_method_71_code
def yX7_byteAt : MethodName := ⟨RX7, "byteAt", "(I)I"⟩
abbrev cX7_next : ByteArray := prog_9_method_72_code
def yX7_next : MethodName := ⟨RX7, "next", "()V"⟩
abbrev cX7_wrongHere : ByteArray := prog_9_method_73_code
def yX7_wrongHere : MethodName := ⟨RX7, "wrongHere", "()V"⟩
abbrev cX7_isWord : ByteArray := prog_9_method_74_code
def yX7_isWord : MethodName := ⟨RX7, "isWord", "(J)Z"⟩
abbrev cX7_kindHere : ByteArray := prog_9_method_75_code
def yX7_kindHere : MethodName := ⟨RX7, "kindHere", "()I"⟩
abbrev cX7_numberHere : ByteArray := prog_9_method_76_code
def yX7_numberHere : MethodName := ⟨RX7, "numberHere", "(I)I"⟩
abbrev cX7_perhaps : ByteArray := prog_9_method_77_code
def yX7_perhaps : MethodName := ⟨RX7, "perhaps", "(JII)V"⟩
abbrev cX7_priestHere : ByteArray := prog_9_method_78_code
def yX7_priestHere : MethodName := ⟨RX7, "priestHere", "(I)V"⟩
abbrev cX7_toldHere : ByteArray := prog_9_method_79_code
def yX7_toldHere : MethodName := ⟨RX7, "toldHere", "()V"⟩
abbrev cX7_item : ByteArray := prog_9_method_80_code
def yX7_item : MethodName := ⟨RX7, "item", "()V"⟩
abbrev cX7_items : ByteArray := prog_9_method_81_code
def yX7_items : MethodName := ⟨RX7, "items", "()I"⟩
abbrev cX7_text : ByteArray := prog_9_method_82_code
def yX7_text : MethodName := ⟨RX7, "text", "()I"⟩
abbrev cX7_hold : ByteArray := prog_9_method_83_code
def yX7_hold : MethodName := ⟨RX7, "hold", "(II)I"⟩
abbrev cX7_above : ByteArray := prog_9_method_84_code
def yX7_above : MethodName := ⟨RX7, "above", "(I)I"⟩
abbrev cX7_as : ByteArray := prog_9_method_85_code
def yX7_as : MethodName := ⟨RX7, "as", "(II)I"⟩
abbrev cX7_isSheet : ByteArray := prog_9_method_86_code
def yX7_isSheet : MethodName := ⟨RX7, "isSheet", "(I)Z"⟩
abbrev cX7_sheet : ByteArray := prog_9_method_87_code
def yX7_sheet : MethodName := ⟨RX7, "sheet", "(III)I"⟩
abbrev cX7_whyNone : ByteArray := prog_9_method_88_code
def yX7_whyNone : MethodName := ⟨RX7, "whyNone", "(I)I"⟩
abbrev cX7_write : ByteArray := prog_9_method_89_code
def yX7_write : MethodName := ⟨RX7, "write", "(III)I"⟩
abbrev cX7_copy : ByteArray := prog_9_method_90_code
def yX7_copy : MethodName := ⟨RX7, "copy", "(IIIII)I"⟩
abbrev cX7_load : ByteArray := prog_9_method_91_code
def yX7_load : MethodName := ⟨RX7, "load", "(I)I"⟩
abbrev cX7_judge : ByteArray := prog_9_method_92_code
def yX7_judge : MethodName := ⟨RX7, "judge", "(I)I"⟩
abbrev cX7_image : ByteArray := prog_9_method_93_code
def yX7_image : MethodName := ⟨RX7, "image", "()I"⟩
abbrev cX7_undo : ByteArray := prog_9_method_94_code
def yX7_undo : MethodName := ⟨RX7, "undo", "()I"⟩
abbrev cX7_tear : ByteArray := prog_9_method_95_code
def yX7_tear : MethodName := ⟨RX7, "tear", "()I"⟩
abbrev cX7_holding : ByteArray := prog_9_method_96_code
def yX7_holding : MethodName := ⟨RX7, "holding", "()I"⟩
abbrev cX7_count : ByteArray := prog_9_method_97_code
def yX7_count : MethodName := ⟨RX7, "count", "(I)I"⟩
abbrev cX7_status : ByteArray := prog_9_method_98_code
def yX7_status : MethodName := ⟨RX7, "status", "(I)I"⟩
def RJ6 : String := "java/lang/Integer"
def TJ6 : u_T := fun k => match k with
  | _ => ("", "", "", false)
def tyJ6 : Nat → FieldType := fun k => match k with
  | _ => .int
abbrev wsJ60 : List Cond := u_ws RJ6 TJ6 0
theorem nmJ6 : ∀ a, a < 0 → ∀ b, b < 0 → a ≠ b → (TJ6 a).2.1 ≠ (TJ6 b).2.1 := by decide +kernel
theorem tyJ6_ok : ∀ k, k < 0 → parseFieldDescriptor (TJ6 k).2.2.1 = some (tyJ6 k) := by decide +kernel
abbrev cJ6_bitCount_0f7a4 : ByteArray := prog_10_method_49_code
def yJ6_bitCount_0f7a4 : MethodName := ⟨RJ6, "bitCount", "(I)I"⟩
def RJ13 : String := "java/lang/Long"
def TJ13 : u_T := fun k => match k with
  | _ => ("", "", "", false)
def tyJ13 : Nat → FieldType := fun k => match k with
  | _ => .int
abbrev wsJ130 : List Cond := u_ws RJ13 TJ13 0
theorem nmJ13 : ∀ a, a < 0 → ∀ b, b < 0 → a ≠ b → (TJ13 a).2.1 ≠ (TJ13 b).2.1 := by decide +kernel
theorem tyJ13_ok : ∀ k, k < 0 → parseFieldDescriptor (TJ13 k).2.2.1 = some (tyJ13 k) := by decide +kernel
abbrev cJ13_bitCount_95d88 : ByteArray := prog_11_method_50_code
def yJ13_bitCount_95d88 : MethodName := ⟨RJ13, "bitCount", "(J)I"⟩
def RJ9 : String := "java/lang/Math"
def TJ9 : u_T := fun k => match k with
  | _ => ("", "", "", false)
def tyJ9 : Nat → FieldType := fun k => match k with
  | _ => .int
abbrev wsJ90 : List Cond := u_ws RJ9 TJ9 0
theorem nmJ9 : ∀ a, a < 0 → ∀ b, b < 0 → a ≠ b → (TJ9 a).2.1 ≠ (TJ9 b).2.1 := by decide +kernel
theorem tyJ9_ok : ∀ k, k < 0 → parseFieldDescriptor (TJ9 k).2.2.1 = some (tyJ9 k) := by decide +kernel
abbrev cJ9_floorMod_7cf53 : ByteArray := prog_12_method_50_code
def yJ9_floorMod_7cf53 : MethodName := ⟨RJ9, "floorMod", "(II)I"⟩
abbrev cJ9_max_7cf53 : ByteArray := prog_12_method_65_code
def yJ9_max_7cf53 : MethodName := ⟨RJ9, "max", "(II)I"⟩
abbrev cJ9_min_7cf53 : ByteArray := prog_12_method_69_code
def yJ9_min_7cf53 : MethodName := ⟨RJ9, "min", "(II)I"⟩
def RJ0 : String := "java/lang/String"
def TJ0 : u_T := fun k => match k with
  | _ => ("", "", "", false)
def tyJ0 : Nat → FieldType := fun k => match k with
  | _ => .int
abbrev wsJ00 : List Cond := u_ws RJ0 TJ0 0
theorem nmJ0 : ∀ a, a < 0 → ∀ b, b < 0 → a ≠ b → (TJ0 a).2.1 ≠ (TJ0 b).2.1 := by decide +kernel
theorem tyJ0_ok : ∀ k, k < 0 → parseFieldDescriptor (TJ0 k).2.2.1 = some (tyJ0 k) := by decide +kernel
abbrev cJ0_length_8abf5 : ByteArray := prog_13_method_54_code
def yJ0_length_8abf5 : MethodName := ⟨RJ0, "length", "()I"⟩
abbrev cJ0_charAt_5068e : ByteArray := prog_13_method_56_code
def yJ0_charAt_5068e : MethodName := ⟨RJ0, "charAt", "(I)C"⟩
abbrev cJ0_coder_7d493 : ByteArray := prog_13_method_152_code
def yJ0_coder_7d493 : MethodName := ⟨RJ0, "coder", "()B"⟩
abbrev cJ0_isLatin1_aae02 : ByteArray := prog_13_method_154_code
def yJ0_isLatin1_aae02 : MethodName := ⟨RJ0, "isLatin1", "()Z"⟩
abbrev cJ0_checkIndex_df160 : ByteArray := prog_13_method_155_code
def yJ0_checkIndex_df160 : MethodName := ⟨RJ0, "checkIndex", "(II)V"⟩
def RJ1 : String := "java/lang/StringLatin1"
def TJ1 : u_T := fun k => match k with
  | _ => ("", "", "", false)
def tyJ1 : Nat → FieldType := fun k => match k with
  | _ => .int
abbrev wsJ10 : List Cond := u_ws RJ1 TJ1 0
theorem nmJ1 : ∀ a, a < 0 → ∀ b, b < 0 → a ≠ b → (TJ1 a).2.1 ≠ (TJ1 b).2.1 := by decide +kernel
theorem tyJ1_ok : ∀ k, k < 0 → parseFieldDescriptor (TJ1 k).2.2.1 = some (tyJ1 k) := by decide +kernel
abbrev cJ1_charAt_3b067 : ByteArray := prog_14_method_2_code
def yJ1_charAt_3b067 : MethodName := ⟨RJ1, "charAt", "([BI)C"⟩
def RJ2 : String := "java/lang/StringUTF16"
def TJ2 : u_T := fun k => match k with
  | _ => ("", "", "", false)
def tyJ2 : Nat → FieldType := fun k => match k with
  | _ => .int
abbrev wsJ20 : List Cond := u_ws RJ2 TJ2 0
theorem nmJ2 : ∀ a, a < 0 → ∀ b, b < 0 → a ≠ b → (TJ2 a).2.1 ≠ (TJ2 b).2.1 := by decide +kernel
theorem tyJ2_ok : ∀ k, k < 0 → parseFieldDescriptor (TJ2 k).2.2.1 = some (tyJ2 k) := by decide +kernel
abbrev cJ2_getChar_3b067 : ByteArray := prog_15_method_5_code
def yJ2_getChar_3b067 : MethodName := ⟨RJ2, "getChar", "([BI)C"⟩
abbrev cJ2_length_9d52b : ByteArray := prog_15_method_6_code
def yJ2_length_9d52b : MethodName := ⟨RJ2, "length", "([B)I"⟩
abbrev cJ2_charAt_3b067 : ByteArray := prog_15_method_83_code
def yJ2_charAt_3b067 : MethodName := ⟨RJ2, "charAt", "([BI)C"⟩
abbrev cJ2_checkIndex_2214a : ByteArray := prog_15_method_91_code
def yJ2_checkIndex_2214a : MethodName := ⟨RJ2, "checkIndex", "(I[B)V"⟩
def RJ10 : String := "java/lang/System"
def TJ10 : u_T := fun k => match k with
  | _ => ("", "", "", false)
def tyJ10 : Nat → FieldType := fun k => match k with
  | _ => .int
abbrev wsJ100 : List Cond := u_ws RJ10 TJ10 0
theorem nmJ10 : ∀ a, a < 0 → ∀ b, b < 0 → a ≠ b → (TJ10 a).2.1 ≠ (TJ10 b).2.1 := by decide +kernel
theorem tyJ10_ok : ∀ k, k < 0 → parseFieldDescriptor (TJ10 k).2.2.1 = some (tyJ10 k) := by decide +kernel
def RJ3 : String := "jdk/internal/util/Preconditions"
def TJ3 : u_T := fun k => match k with
  | _ => ("", "", "", false)
def tyJ3 : Nat → FieldType := fun k => match k with
  | _ => .int
abbrev wsJ30 : List Cond := u_ws RJ3 TJ3 0
theorem nmJ3 : ∀ a, a < 0 → ∀ b, b < 0 → a ≠ b → (TJ3 a).2.1 ≠ (TJ3 b).2.1 := by decide +kernel
theorem tyJ3_ok : ∀ k, k < 0 → parseFieldDescriptor (TJ3 k).2.2.1 = some (tyJ3 k) := by decide +kernel
abbrev cJ3_checkIndex_8e157 : ByteArray := prog_17_method_11_code
def yJ3_checkIndex_8e157 : MethodName := ⟨RJ3, "checkIndex", "(IILjava/util/function/BiFunction;)I"⟩
def RL : String := "RicePriestsLaw"
abbrev cL_law : ByteArray := code
def yL_law : MethodName := ⟨RL, "law", "([I)Z"⟩
abbrev vwCl : List vw_C := [(RX0, TX0, 9), (RX1, TX1, 6), (RX2, TX2, 6), (RX3, TX3, 1), (RX4, TX4, 3), (RX5, TX5, 2), (RX6, TX6, 7), (RX7, TX7, 17)]
end
section
theorem dX0_init_0 : decode cX0_init 0 = .ok (.aload_n 0, 1) := by decide +kernel
theorem dX0_init_1 : decode cX0_init 1 = .ok (.invokespecial 3, 3) := by decide +kernel
theorem dX0_init_4 : decode cX0_init 4 = .ok (.aload_n 0, 1) := by decide +kernel
theorem dX0_init_5 : decode cX0_init 5 = .ok (.iconst 0, 1) := by decide +kernel
theorem dX0_init_6 : decode cX0_init 6 = .ok (.putfield 9, 3) := by decide +kernel
theorem dX0_init_9 : decode cX0_init 9 = .ok (.aload_n 0, 1) := by decide +kernel
theorem dX0_init_10 : decode cX0_init 10 = .ok (.iconst 2, 1) := by decide +kernel
theorem dX0_init_11 : decode cX0_init 11 = .ok (.putfield 15, 3) := by decide +kernel
theorem dX0_init_14 : decode cX0_init 14 = .ok (.aload_n 0, 1) := by decide +kernel
theorem dX0_init_15 : decode cX0_init 15 = .ok (.iconst 0, 1) := by decide +kernel
theorem dX0_init_16 : decode cX0_init 16 = .ok (.putfield 18, 3) := by decide +kernel
theorem dX0_init_19 : decode cX0_init 19 = .ok (.aload_n 0, 1) := by decide +kernel
theorem dX0_init_20 : decode cX0_init 20 = .ok (.iconst 0, 1) := by decide +kernel
theorem dX0_init_21 : decode cX0_init 21 = .ok (.putfield 21, 3) := by decide +kernel
theorem dX0_init_24 : decode cX0_init 24 = .ok (.aload_n 0, 1) := by decide +kernel
theorem dX0_init_25 : decode cX0_init 25 = .ok (.iconst 1, 1) := by decide +kernel
theorem dX0_init_26 : decode cX0_init 26 = .ok (.putfield 24, 3) := by decide +kernel
theorem dX0_init_29 : decode cX0_init 29 = .ok (.aload_n 0, 1) := by decide +kernel
theorem dX0_init_30 : decode cX0_init 30 = .ok (.iconst 0, 1) := by decide +kernel
theorem dX0_init_31 : decode cX0_init 31 = .ok (.putfield 27, 3) := by decide +kernel
theorem dX0_init_34 : decode cX0_init 34 = .ok (.aload_n 0, 1) := by decide +kernel
theorem dX0_init_35 : decode cX0_init 35 = .ok (.bipush 6, 2) := by decide +kernel
theorem dX0_init_37 : decode cX0_init 37 = .ok (.newarray .int, 2) := by decide +kernel
theorem dX0_init_39 : decode cX0_init 39 = .ok (.putfield 30, 3) := by decide +kernel
theorem dX0_init_42 : decode cX0_init 42 = .ok (.aload_n 0, 1) := by decide +kernel
theorem dX0_init_43 : decode cX0_init 43 = .ok (.bipush 10, 2) := by decide +kernel
theorem dX0_init_45 : decode cX0_init 45 = .ok (.newarray .int, 2) := by decide +kernel
theorem dX0_init_47 : decode cX0_init 47 = .ok (.putfield 34, 3) := by decide +kernel
theorem dX0_init_50 : decode cX0_init 50 = .ok (.aload_n 0, 1) := by decide +kernel
theorem dX0_init_51 : decode cX0_init 51 = .ok (.bipush 8, 2) := by decide +kernel
theorem dX0_init_53 : decode cX0_init 53 = .ok (.anewarray 37, 3) := by decide +kernel
theorem dX0_init_56 : decode cX0_init 56 = .ok (.putfield 39, 3) := by decide +kernel
theorem dX0_init_59 : decode cX0_init 59 = .ok (.iconst 0, 1) := by decide +kernel
theorem dX0_init_60 : decode cX0_init 60 = .ok (.istore_n 1, 1) := by decide +kernel
theorem dX0_init_61 : decode cX0_init 61 = .ok (.iload_n 1, 1) := by decide +kernel
theorem dX0_init_62 : decode cX0_init 62 = .ok (.bipush 10, 2) := by decide +kernel
theorem dX0_init_64 : decode cX0_init 64 = .ok (.if_icmp .ge 16, 3) := by decide +kernel
theorem dX0_init_67 : decode cX0_init 67 = .ok (.aload_n 0, 1) := by decide +kernel
theorem dX0_init_68 : decode cX0_init 68 = .ok (.getfield 34, 3) := by decide +kernel
theorem dX0_init_71 : decode cX0_init 71 = .ok (.iload_n 1, 1) := by decide +kernel
theorem dX0_init_72 : decode cX0_init 72 = .ok (.iconst (-1), 1) := by decide +kernel
theorem dX0_init_73 : decode cX0_init 73 = .ok (.iastore, 1) := by decide +kernel
theorem dX0_init_74 : decode cX0_init 74 = .ok (.iinc 1 1, 3) := by decide +kernel
theorem dX0_init_77 : decode cX0_init 77 = .ok (.goto (-16), 3) := by decide +kernel
theorem dX0_init_80 : decode cX0_init 80 = .ok (.iconst 0, 1) := by decide +kernel
theorem dX0_init_81 : decode cX0_init 81 = .ok (.istore_n 1, 1) := by decide +kernel
theorem dX0_init_82 : decode cX0_init 82 = .ok (.iload_n 1, 1) := by decide +kernel
theorem dX0_init_83 : decode cX0_init 83 = .ok (.bipush 8, 2) := by decide +kernel
theorem dX0_init_85 : decode cX0_init 85 = .ok (.if_icmp .ge 22, 3) := by decide +kernel
theorem dX0_init_88 : decode cX0_init 88 = .ok (.aload_n 0, 1) := by decide +kernel
theorem dX0_init_89 : decode cX0_init 89 = .ok (.getfield 39, 3) := by decide +kernel
theorem dX0_init_92 : decode cX0_init 92 = .ok (.iload_n 1, 1) := by decide +kernel
theorem dX0_init_93 : decode cX0_init 93 = .ok (.new 37, 3) := by decide +kernel
theorem dX0_init_96 : decode cX0_init 96 = .ok (.dup, 1) := by decide +kernel
theorem dX0_init_97 : decode cX0_init 97 = .ok (.invokespecial 43, 3) := by decide +kernel
theorem dX0_init_100 : decode cX0_init 100 = .ok (.aastore, 1) := by decide +kernel
theorem dX0_init_101 : decode cX0_init 101 = .ok (.iinc 1 1, 3) := by decide +kernel
theorem dX0_init_104 : decode cX0_init 104 = .ok (.goto (-22), 3) := by decide +kernel
theorem dX0_init_107 : decode cX0_init 107 = .ok (.return_, 1) := by decide +kernel
theorem dX0_becomeLike_0 : decode cX0_becomeLike 0 = .ok (.aload_n 0, 1) := by decide +kernel
theorem dX0_becomeLike_1 : decode cX0_becomeLike 1 = .ok (.aload_n 1, 1) := by decide +kernel
theorem dX0_becomeLike_2 : decode cX0_becomeLike 2 = .ok (.getfield 9, 3) := by decide +kernel
theorem dX0_becomeLike_5 : decode cX0_becomeLike 5 = .ok (.putfield 9, 3) := by decide +kernel
theorem dX0_becomeLike_8 : decode cX0_becomeLike 8 = .ok (.aload_n 0, 1) := by decide +kernel
theorem dX0_becomeLike_9 : decode cX0_becomeLike 9 = .ok (.aload_n 1, 1) := by decide +kernel
theorem dX0_becomeLike_10 : decode cX0_becomeLike 10 = .ok (.getfield 15, 3) := by decide +kernel
theorem dX0_becomeLike_13 : decode cX0_becomeLike 13 = .ok (.putfield 15, 3) := by decide +kernel
theorem dX0_becomeLike_16 : decode cX0_becomeLike 16 = .ok (.aload_n 0, 1) := by decide +kernel
theorem dX0_becomeLike_17 : decode cX0_becomeLike 17 = .ok (.aload_n 1, 1) := by decide +kernel
theorem dX0_becomeLike_18 : decode cX0_becomeLike 18 = .ok (.getfield 18, 3) := by decide +kernel
theorem dX0_becomeLike_21 : decode cX0_becomeLike 21 = .ok (.putfield 18, 3) := by decide +kernel
theorem dX0_becomeLike_24 : decode cX0_becomeLike 24 = .ok (.aload_n 0, 1) := by decide +kernel
theorem dX0_becomeLike_25 : decode cX0_becomeLike 25 = .ok (.aload_n 1, 1) := by decide +kernel
theorem dX0_becomeLike_26 : decode cX0_becomeLike 26 = .ok (.getfield 21, 3) := by decide +kernel
theorem dX0_becomeLike_29 : decode cX0_becomeLike 29 = .ok (.putfield 21, 3) := by decide +kernel
theorem dX0_becomeLike_32 : decode cX0_becomeLike 32 = .ok (.aload_n 0, 1) := by decide +kernel
theorem dX0_becomeLike_33 : decode cX0_becomeLike 33 = .ok (.aload_n 1, 1) := by decide +kernel
theorem dX0_becomeLike_34 : decode cX0_becomeLike 34 = .ok (.getfield 24, 3) := by decide +kernel
theorem dX0_becomeLike_37 : decode cX0_becomeLike 37 = .ok (.putfield 24, 3) := by decide +kernel
theorem dX0_becomeLike_40 : decode cX0_becomeLike 40 = .ok (.aload_n 0, 1) := by decide +kernel
theorem dX0_becomeLike_41 : decode cX0_becomeLike 41 = .ok (.aload_n 1, 1) := by decide +kernel
theorem dX0_becomeLike_42 : decode cX0_becomeLike 42 = .ok (.getfield 27, 3) := by decide +kernel
theorem dX0_becomeLike_45 : decode cX0_becomeLike 45 = .ok (.putfield 27, 3) := by decide +kernel
theorem dX0_becomeLike_48 : decode cX0_becomeLike 48 = .ok (.aload_n 1, 1) := by decide +kernel
theorem dX0_becomeLike_49 : decode cX0_becomeLike 49 = .ok (.getfield 30, 3) := by decide +kernel
theorem dX0_becomeLike_52 : decode cX0_becomeLike 52 = .ok (.iconst 0, 1) := by decide +kernel
theorem dX0_becomeLike_53 : decode cX0_becomeLike 53 = .ok (.aload_n 0, 1) := by decide +kernel
theorem dX0_becomeLike_54 : decode cX0_becomeLike 54 = .ok (.getfield 30, 3) := by decide +kernel
theorem dX0_becomeLike_57 : decode cX0_becomeLike 57 = .ok (.iconst 0, 1) := by decide +kernel
theorem dX0_becomeLike_58 : decode cX0_becomeLike 58 = .ok (.bipush 6, 2) := by decide +kernel
theorem dX0_becomeLike_60 : decode cX0_becomeLike 60 = .ok (.invokestatic 44, 3) := by decide +kernel
theorem dX0_becomeLike_63 : decode cX0_becomeLike 63 = .ok (.aload_n 1, 1) := by decide +kernel
theorem dX0_becomeLike_64 : decode cX0_becomeLike 64 = .ok (.getfield 34, 3) := by decide +kernel
theorem dX0_becomeLike_67 : decode cX0_becomeLike 67 = .ok (.iconst 0, 1) := by decide +kernel
theorem dX0_becomeLike_68 : decode cX0_becomeLike 68 = .ok (.aload_n 0, 1) := by decide +kernel
theorem dX0_becomeLike_69 : decode cX0_becomeLike 69 = .ok (.getfield 34, 3) := by decide +kernel
theorem dX0_becomeLike_72 : decode cX0_becomeLike 72 = .ok (.iconst 0, 1) := by decide +kernel
theorem dX0_becomeLike_73 : decode cX0_becomeLike 73 = .ok (.bipush 10, 2) := by decide +kernel
theorem dX0_becomeLike_75 : decode cX0_becomeLike 75 = .ok (.invokestatic 44, 3) := by decide +kernel
theorem dX0_becomeLike_78 : decode cX0_becomeLike 78 = .ok (.iconst 0, 1) := by decide +kernel
theorem dX0_becomeLike_79 : decode cX0_becomeLike 79 = .ok (.istore_n 2, 1) := by decide +kernel
theorem dX0_becomeLike_80 : decode cX0_becomeLike 80 = .ok (.iload_n 2, 1) := by decide +kernel
theorem dX0_becomeLike_81 : decode cX0_becomeLike 81 = .ok (.aload_n 0, 1) := by decide +kernel
theorem dX0_becomeLike_82 : decode cX0_becomeLike 82 = .ok (.getfield 27, 3) := by decide +kernel
theorem dX0_becomeLike_85 : decode cX0_becomeLike 85 = .ok (.if_icmp .ge 37, 3) := by decide +kernel
theorem dX0_becomeLike_88 : decode cX0_becomeLike 88 = .ok (.aload_n 1, 1) := by decide +kernel
theorem dX0_becomeLike_89 : decode cX0_becomeLike 89 = .ok (.iload_n 2, 1) := by decide +kernel
theorem dX0_becomeLike_90 : decode cX0_becomeLike 90 = .ok (.invokevirtual 50, 3) := by decide +kernel
theorem dX0_becomeLike_93 : decode cX0_becomeLike 93 = .ok (.astore_n 3, 1) := by decide +kernel
theorem dX0_becomeLike_94 : decode cX0_becomeLike 94 = .ok (.aload_n 0, 1) := by decide +kernel
theorem dX0_becomeLike_95 : decode cX0_becomeLike 95 = .ok (.iload_n 2, 1) := by decide +kernel
theorem dX0_becomeLike_96 : decode cX0_becomeLike 96 = .ok (.invokevirtual 50, 3) := by decide +kernel
theorem dX0_becomeLike_99 : decode cX0_becomeLike 99 = .ok (.astore 4, 2) := by decide +kernel
theorem dX0_becomeLike_101 : decode cX0_becomeLike 101 = .ok (.aload_n 3, 1) := by decide +kernel
theorem dX0_becomeLike_102 : decode cX0_becomeLike 102 = .ok (.ifnull 14, 3) := by decide +kernel
theorem dX0_becomeLike_105 : decode cX0_becomeLike 105 = .ok (.aload 4, 2) := by decide +kernel
theorem dX0_becomeLike_107 : decode cX0_becomeLike 107 = .ok (.ifnull 9, 3) := by decide +kernel
theorem dX0_becomeLike_110 : decode cX0_becomeLike 110 = .ok (.aload 4, 2) := by decide +kernel
theorem dX0_becomeLike_112 : decode cX0_becomeLike 112 = .ok (.aload_n 3, 1) := by decide +kernel
theorem dX0_becomeLike_113 : decode cX0_becomeLike 113 = .ok (.invokevirtual 54, 3) := by decide +kernel
theorem dX0_becomeLike_116 : decode cX0_becomeLike 116 = .ok (.iinc 2 1, 3) := by decide +kernel
theorem dX0_becomeLike_119 : decode cX0_becomeLike 119 = .ok (.goto (-39), 3) := by decide +kernel
theorem dX0_becomeLike_122 : decode cX0_becomeLike 122 = .ok (.return_, 1) := by decide +kernel
theorem dX0_at_0 : decode cX0_at 0 = .ok (.iload_n 1, 1) := by decide +kernel
theorem dX0_at_1 : decode cX0_at 1 = .ok (.ifCond .lt 26, 3) := by decide +kernel
theorem dX0_at_4 : decode cX0_at 4 = .ok (.iload_n 1, 1) := by decide +kernel
theorem dX0_at_5 : decode cX0_at 5 = .ok (.aload_n 0, 1) := by decide +kernel
theorem dX0_at_6 : decode cX0_at 6 = .ok (.getfield 27, 3) := by decide +kernel
theorem dX0_at_9 : decode cX0_at 9 = .ok (.if_icmp .ge 18, 3) := by decide +kernel
theorem dX0_at_12 : decode cX0_at 12 = .ok (.iload_n 1, 1) := by decide +kernel
theorem dX0_at_13 : decode cX0_at 13 = .ok (.bipush 8, 2) := by decide +kernel
theorem dX0_at_15 : decode cX0_at 15 = .ok (.if_icmp .ge 12, 3) := by decide +kernel
theorem dX0_at_18 : decode cX0_at 18 = .ok (.aload_n 0, 1) := by decide +kernel
theorem dX0_at_19 : decode cX0_at 19 = .ok (.getfield 39, 3) := by decide +kernel
theorem dX0_at_22 : decode cX0_at 22 = .ok (.iload_n 1, 1) := by decide +kernel
theorem dX0_at_23 : decode cX0_at 23 = .ok (.aaload, 1) := by decide +kernel
theorem dX0_at_24 : decode cX0_at 24 = .ok (.goto 4, 3) := by decide +kernel
theorem dX0_at_27 : decode cX0_at 27 = .ok (.aconst_null, 1) := by decide +kernel
theorem dX0_at_28 : decode cX0_at 28 = .ok (.areturn, 1) := by decide +kernel
theorem dX0_welcome_0 : decode cX0_welcome 0 = .ok (.aload_n 0, 1) := by decide +kernel
theorem dX0_welcome_1 : decode cX0_welcome 1 = .ok (.getfield 27, 3) := by decide +kernel
theorem dX0_welcome_4 : decode cX0_welcome 4 = .ok (.bipush 8, 2) := by decide +kernel
theorem dX0_welcome_6 : decode cX0_welcome 6 = .ok (.if_icmp .lt 5, 3) := by decide +kernel
theorem dX0_welcome_9 : decode cX0_welcome 9 = .ok (.iconst (-1), 1) := by decide +kernel
theorem dX0_welcome_10 : decode cX0_welcome 10 = .ok (.ireturn, 1) := by decide +kernel
theorem dX0_welcome_11 : decode cX0_welcome 11 = .ok (.aload_n 0, 1) := by decide +kernel
theorem dX0_welcome_12 : decode cX0_welcome 12 = .ok (.getfield 27, 3) := by decide +kernel
theorem dX0_welcome_15 : decode cX0_welcome 15 = .ok (.istore_n 3, 1) := by decide +kernel
theorem dX0_welcome_16 : decode cX0_welcome 16 = .ok (.aload_n 0, 1) := by decide +kernel
theorem dX0_welcome_17 : decode cX0_welcome 17 = .ok (.dup, 1) := by decide +kernel
theorem dX0_welcome_18 : decode cX0_welcome 18 = .ok (.getfield 27, 3) := by decide +kernel
theorem dX0_welcome_21 : decode cX0_welcome 21 = .ok (.iconst 1, 1) := by decide +kernel
theorem dX0_welcome_22 : decode cX0_welcome 22 = .ok (.iadd, 1) := by decide +kernel
theorem dX0_welcome_23 : decode cX0_welcome 23 = .ok (.putfield 27, 3) := by decide +kernel
theorem dX0_welcome_26 : decode cX0_welcome 26 = .ok (.aload_n 0, 1) := by decide +kernel
theorem dX0_welcome_27 : decode cX0_welcome 27 = .ok (.iload_n 3, 1) := by decide +kernel
theorem dX0_welcome_28 : decode cX0_welcome 28 = .ok (.invokevirtual 50, 3) := by decide +kernel
theorem dX0_welcome_31 : decode cX0_welcome 31 = .ok (.astore 4, 2) := by decide +kernel
theorem dX0_welcome_33 : decode cX0_welcome 33 = .ok (.aload 4, 2) := by decide +kernel
theorem dX0_welcome_35 : decode cX0_welcome 35 = .ok (.ifnull 10, 3) := by decide +kernel
theorem dX0_welcome_38 : decode cX0_welcome 38 = .ok (.aload 4, 2) := by decide +kernel
theorem dX0_welcome_40 : decode cX0_welcome 40 = .ok (.iload_n 1, 1) := by decide +kernel
theorem dX0_welcome_41 : decode cX0_welcome 41 = .ok (.iload_n 2, 1) := by decide +kernel
theorem dX0_welcome_42 : decode cX0_welcome 42 = .ok (.invokevirtual 58, 3) := by decide +kernel
theorem dX0_welcome_45 : decode cX0_welcome 45 = .ok (.iload_n 3, 1) := by decide +kernel
theorem dX0_welcome_46 : decode cX0_welcome 46 = .ok (.ireturn, 1) := by decide +kernel
theorem dX0_tellOf_0 : decode cX0_tellOf 0 = .ok (.iload_n 2, 1) := by decide +kernel
theorem dX0_tellOf_1 : decode cX0_tellOf 1 = .ok (.tableswitch 109 0 8 #[51, 56, 61, 66, 71, 76, 81, 86, 96], 51) := by decide +kernel
theorem dX0_tellOf_52 : decode cX0_tellOf 52 = .ok (.aload_n 1, 1) := by decide +kernel
theorem dX0_tellOf_53 : decode cX0_tellOf 53 = .ok (.getfield 62, 3) := by decide +kernel
theorem dX0_tellOf_56 : decode cX0_tellOf 56 = .ok (.ireturn, 1) := by decide +kernel
theorem dX0_tellOf_57 : decode cX0_tellOf 57 = .ok (.aload_n 1, 1) := by decide +kernel
theorem dX0_tellOf_58 : decode cX0_tellOf 58 = .ok (.getfield 65, 3) := by decide +kernel
theorem dX0_tellOf_61 : decode cX0_tellOf 61 = .ok (.ireturn, 1) := by decide +kernel
theorem dX0_tellOf_62 : decode cX0_tellOf 62 = .ok (.aload_n 1, 1) := by decide +kernel
theorem dX0_tellOf_63 : decode cX0_tellOf 63 = .ok (.getfield 68, 3) := by decide +kernel
theorem dX0_tellOf_66 : decode cX0_tellOf 66 = .ok (.ireturn, 1) := by decide +kernel
theorem dX0_tellOf_67 : decode cX0_tellOf 67 = .ok (.aload_n 1, 1) := by decide +kernel
theorem dX0_tellOf_68 : decode cX0_tellOf 68 = .ok (.getfield 71, 3) := by decide +kernel
theorem dX0_tellOf_71 : decode cX0_tellOf 71 = .ok (.ireturn, 1) := by decide +kernel
theorem dX0_tellOf_72 : decode cX0_tellOf 72 = .ok (.aload_n 1, 1) := by decide +kernel
theorem dX0_tellOf_73 : decode cX0_tellOf 73 = .ok (.getfield 74, 3) := by decide +kernel
theorem dX0_tellOf_76 : decode cX0_tellOf 76 = .ok (.ireturn, 1) := by decide +kernel
theorem dX0_tellOf_77 : decode cX0_tellOf 77 = .ok (.aload_n 1, 1) := by decide +kernel
theorem dX0_tellOf_78 : decode cX0_tellOf 78 = .ok (.getfield 77, 3) := by decide +kernel
theorem dX0_tellOf_81 : decode cX0_tellOf 81 = .ok (.ireturn, 1) := by decide +kernel
theorem dX0_tellOf_82 : decode cX0_tellOf 82 = .ok (.aload_n 1, 1) := by decide +kernel
theorem dX0_tellOf_83 : decode cX0_tellOf 83 = .ok (.invokevirtual 80, 3) := by decide +kernel
theorem dX0_tellOf_86 : decode cX0_tellOf 86 = .ok (.ireturn, 1) := by decide +kernel
theorem dX0_tellOf_87 : decode cX0_tellOf 87 = .ok (.aload_n 1, 1) := by decide +kernel
theorem dX0_tellOf_88 : decode cX0_tellOf 88 = .ok (.invokevirtual 80, 3) := by decide +kernel
theorem dX0_tellOf_91 : decode cX0_tellOf 91 = .ok (.aload_n 1, 1) := by decide +kernel
theorem dX0_tellOf_92 : decode cX0_tellOf 92 = .ok (.getfield 65, 3) := by decide +kernel
theorem dX0_tellOf_95 : decode cX0_tellOf 95 = .ok (.isub, 1) := by decide +kernel
theorem dX0_tellOf_96 : decode cX0_tellOf 96 = .ok (.ireturn, 1) := by decide +kernel
theorem dX0_tellOf_97 : decode cX0_tellOf 97 = .ok (.aload_n 1, 1) := by decide +kernel
theorem dX0_tellOf_98 : decode cX0_tellOf 98 = .ok (.aload_n 0, 1) := by decide +kernel
theorem dX0_tellOf_99 : decode cX0_tellOf 99 = .ok (.getfield 15, 3) := by decide +kernel
theorem dX0_tellOf_102 : decode cX0_tellOf 102 = .ok (.aload_n 0, 1) := by decide +kernel
theorem dX0_tellOf_103 : decode cX0_tellOf 103 = .ok (.getfield 9, 3) := by decide +kernel
theorem dX0_tellOf_106 : decode cX0_tellOf 106 = .ok (.invokevirtual 84, 3) := by decide +kernel
theorem dX0_tellOf_109 : decode cX0_tellOf 109 = .ok (.ireturn, 1) := by decide +kernel
theorem dX0_tellOf_110 : decode cX0_tellOf 110 = .ok (.aload_n 1, 1) := by decide +kernel
theorem dX0_tellOf_111 : decode cX0_tellOf 111 = .ok (.invokevirtual 88, 3) := by decide +kernel
theorem dX0_tellOf_114 : decode cX0_tellOf 114 = .ok (.ifCond .eq 7, 3) := by decide +kernel
theorem dX0_tellOf_117 : decode cX0_tellOf 117 = .ok (.iconst 1, 1) := by decide +kernel
theorem dX0_tellOf_118 : decode cX0_tellOf 118 = .ok (.goto 4, 3) := by decide +kernel
theorem dX0_tellOf_121 : decode cX0_tellOf 121 = .ok (.iconst 0, 1) := by decide +kernel
theorem dX0_tellOf_122 : decode cX0_tellOf 122 = .ok (.ireturn, 1) := by decide +kernel
theorem dX0_placeToday_0 : decode cX0_placeToday 0 = .ok (.aload_n 0, 1) := by decide +kernel
theorem dX0_placeToday_1 : decode cX0_placeToday 1 = .ok (.getfield 9, 3) := by decide +kernel
theorem dX0_placeToday_4 : decode cX0_placeToday 4 = .ok (.bipush 6, 2) := by decide +kernel
theorem dX0_placeToday_6 : decode cX0_placeToday 6 = .ok (.invokestatic 92, 3) := by decide +kernel
theorem dX0_placeToday_9 : decode cX0_placeToday 9 = .ok (.ireturn, 1) := by decide +kernel
theorem dX0_draw_0 : decode cX0_draw 0 = .ok (.aload_n 0, 1) := by decide +kernel
theorem dX0_draw_1 : decode cX0_draw 1 = .ok (.aload_n 0, 1) := by decide +kernel
theorem dX0_draw_2 : decode cX0_draw 2 = .ok (.getfield 24, 3) := by decide +kernel
theorem dX0_draw_5 : decode cX0_draw 5 = .ok (.ldc 97, 2) := by decide +kernel
theorem dX0_draw_7 : decode cX0_draw 7 = .ok (.imul, 1) := by decide +kernel
theorem dX0_draw_8 : decode cX0_draw 8 = .ok (.sipush 12345, 3) := by decide +kernel
theorem dX0_draw_11 : decode cX0_draw 11 = .ok (.iadd, 1) := by decide +kernel
theorem dX0_draw_12 : decode cX0_draw 12 = .ok (.putfield 24, 3) := by decide +kernel
theorem dX0_draw_15 : decode cX0_draw 15 = .ok (.aload_n 0, 1) := by decide +kernel
theorem dX0_draw_16 : decode cX0_draw 16 = .ok (.getfield 24, 3) := by decide +kernel
theorem dX0_draw_19 : decode cX0_draw 19 = .ok (.bipush 8, 2) := by decide +kernel
theorem dX0_draw_21 : decode cX0_draw 21 = .ok (.iushr, 1) := by decide +kernel
theorem dX0_draw_22 : decode cX0_draw 22 = .ok (.ireturn, 1) := by decide +kernel
theorem dX0_takersOf_0 : decode cX0_takersOf 0 = .ok (.iconst 0, 1) := by decide +kernel
theorem dX0_takersOf_1 : decode cX0_takersOf 1 = .ok (.istore_n 2, 1) := by decide +kernel
theorem dX0_takersOf_2 : decode cX0_takersOf 2 = .ok (.iconst 0, 1) := by decide +kernel
theorem dX0_takersOf_3 : decode cX0_takersOf 3 = .ok (.istore_n 3, 1) := by decide +kernel
theorem dX0_takersOf_4 : decode cX0_takersOf 4 = .ok (.iload_n 3, 1) := by decide +kernel
theorem dX0_takersOf_5 : decode cX0_takersOf 5 = .ok (.aload_n 0, 1) := by decide +kernel
theorem dX0_takersOf_6 : decode cX0_takersOf 6 = .ok (.getfield 27, 3) := by decide +kernel
theorem dX0_takersOf_9 : decode cX0_takersOf 9 = .ok (.if_icmp .ge 39, 3) := by decide +kernel
theorem dX0_takersOf_12 : decode cX0_takersOf 12 = .ok (.aload_n 0, 1) := by decide +kernel
theorem dX0_takersOf_13 : decode cX0_takersOf 13 = .ok (.iload_n 3, 1) := by decide +kernel
theorem dX0_takersOf_14 : decode cX0_takersOf 14 = .ok (.invokevirtual 50, 3) := by decide +kernel
theorem dX0_takersOf_17 : decode cX0_takersOf 17 = .ok (.astore 4, 2) := by decide +kernel
theorem dX0_takersOf_19 : decode cX0_takersOf 19 = .ok (.aload 4, 2) := by decide +kernel
theorem dX0_takersOf_21 : decode cX0_takersOf 21 = .ok (.ifnull 21, 3) := by decide +kernel
theorem dX0_takersOf_24 : decode cX0_takersOf 24 = .ok (.aload 4, 2) := by decide +kernel
theorem dX0_takersOf_26 : decode cX0_takersOf 26 = .ok (.getfield 68, 3) := by decide +kernel
theorem dX0_takersOf_29 : decode cX0_takersOf 29 = .ok (.iload_n 1, 1) := by decide +kernel
theorem dX0_takersOf_30 : decode cX0_takersOf 30 = .ok (.ishr, 1) := by decide +kernel
theorem dX0_takersOf_31 : decode cX0_takersOf 31 = .ok (.iconst 1, 1) := by decide +kernel
theorem dX0_takersOf_32 : decode cX0_takersOf 32 = .ok (.iand, 1) := by decide +kernel
theorem dX0_takersOf_33 : decode cX0_takersOf 33 = .ok (.ifCond .eq 9, 3) := by decide +kernel
theorem dX0_takersOf_36 : decode cX0_takersOf 36 = .ok (.iload_n 2, 1) := by decide +kernel
theorem dX0_takersOf_37 : decode cX0_takersOf 37 = .ok (.iconst 1, 1) := by decide +kernel
theorem dX0_takersOf_38 : decode cX0_takersOf 38 = .ok (.iload_n 3, 1) := by decide +kernel
theorem dX0_takersOf_39 : decode cX0_takersOf 39 = .ok (.ishl, 1) := by decide +kernel
theorem dX0_takersOf_40 : decode cX0_takersOf 40 = .ok (.ior, 1) := by decide +kernel
theorem dX0_takersOf_41 : decode cX0_takersOf 41 = .ok (.istore_n 2, 1) := by decide +kernel
theorem dX0_takersOf_42 : decode cX0_takersOf 42 = .ok (.iinc 3 1, 3) := by decide +kernel
theorem dX0_takersOf_45 : decode cX0_takersOf 45 = .ok (.goto (-41), 3) := by decide +kernel
theorem dX0_takersOf_48 : decode cX0_takersOf 48 = .ok (.iload_n 2, 1) := by decide +kernel
theorem dX0_takersOf_49 : decode cX0_takersOf 49 = .ok (.ireturn, 1) := by decide +kernel
theorem dX0_hungriestOf_0 : decode cX0_hungriestOf 0 = .ok (.iconst (-1), 1) := by decide +kernel
theorem dX0_hungriestOf_1 : decode cX0_hungriestOf 1 = .ok (.istore_n 2, 1) := by decide +kernel
theorem dX0_hungriestOf_2 : decode cX0_hungriestOf 2 = .ok (.iconst 0, 1) := by decide +kernel
theorem dX0_hungriestOf_3 : decode cX0_hungriestOf 3 = .ok (.istore_n 3, 1) := by decide +kernel
theorem dX0_hungriestOf_4 : decode cX0_hungriestOf 4 = .ok (.iconst 0, 1) := by decide +kernel
theorem dX0_hungriestOf_5 : decode cX0_hungriestOf 5 = .ok (.istore 4, 2) := by decide +kernel
theorem dX0_hungriestOf_7 : decode cX0_hungriestOf 7 = .ok (.iload 4, 2) := by decide +kernel
theorem dX0_hungriestOf_9 : decode cX0_hungriestOf 9 = .ok (.aload_n 0, 1) := by decide +kernel
theorem dX0_hungriestOf_10 : decode cX0_hungriestOf 10 = .ok (.getfield 27, 3) := by decide +kernel
theorem dX0_hungriestOf_13 : decode cX0_hungriestOf 13 = .ok (.if_icmp .ge 61, 3) := by decide +kernel
theorem dX0_hungriestOf_16 : decode cX0_hungriestOf 16 = .ok (.aload_n 0, 1) := by decide +kernel
theorem dX0_hungriestOf_17 : decode cX0_hungriestOf 17 = .ok (.iload 4, 2) := by decide +kernel
theorem dX0_hungriestOf_19 : decode cX0_hungriestOf 19 = .ok (.invokevirtual 50, 3) := by decide +kernel
theorem dX0_hungriestOf_22 : decode cX0_hungriestOf 22 = .ok (.astore 5, 2) := by decide +kernel
theorem dX0_hungriestOf_24 : decode cX0_hungriestOf 24 = .ok (.aload 5, 2) := by decide +kernel
theorem dX0_hungriestOf_26 : decode cX0_hungriestOf 26 = .ok (.ifnull 42, 3) := by decide +kernel
theorem dX0_hungriestOf_29 : decode cX0_hungriestOf 29 = .ok (.iload_n 1, 1) := by decide +kernel
theorem dX0_hungriestOf_30 : decode cX0_hungriestOf 30 = .ok (.iload 4, 2) := by decide +kernel
theorem dX0_hungriestOf_32 : decode cX0_hungriestOf 32 = .ok (.ishr, 1) := by decide +kernel
theorem dX0_hungriestOf_33 : decode cX0_hungriestOf 33 = .ok (.iconst 1, 1) := by decide +kernel
theorem dX0_hungriestOf_34 : decode cX0_hungriestOf 34 = .ok (.iand, 1) := by decide +kernel
theorem dX0_hungriestOf_35 : decode cX0_hungriestOf 35 = .ok (.ifCond .eq 33, 3) := by decide +kernel
theorem dX0_hungriestOf_38 : decode cX0_hungriestOf 38 = .ok (.aload 5, 2) := by decide +kernel
theorem dX0_hungriestOf_40 : decode cX0_hungriestOf 40 = .ok (.invokevirtual 80, 3) := by decide +kernel
theorem dX0_hungriestOf_43 : decode cX0_hungriestOf 43 = .ok (.aload 5, 2) := by decide +kernel
theorem dX0_hungriestOf_45 : decode cX0_hungriestOf 45 = .ok (.getfield 65, 3) := by decide +kernel
theorem dX0_hungriestOf_48 : decode cX0_hungriestOf 48 = .ok (.isub, 1) := by decide +kernel
theorem dX0_hungriestOf_49 : decode cX0_hungriestOf 49 = .ok (.istore 6, 2) := by decide +kernel
theorem dX0_hungriestOf_51 : decode cX0_hungriestOf 51 = .ok (.iload_n 2, 1) := by decide +kernel
theorem dX0_hungriestOf_52 : decode cX0_hungriestOf 52 = .ok (.iconst (-1), 1) := by decide +kernel
theorem dX0_hungriestOf_53 : decode cX0_hungriestOf 53 = .ok (.if_icmp .eq 9, 3) := by decide +kernel
theorem dX0_hungriestOf_56 : decode cX0_hungriestOf 56 = .ok (.iload 6, 2) := by decide +kernel
theorem dX0_hungriestOf_58 : decode cX0_hungriestOf 58 = .ok (.iload_n 3, 1) := by decide +kernel
theorem dX0_hungriestOf_59 : decode cX0_hungriestOf 59 = .ok (.if_icmp .le 9, 3) := by decide +kernel
theorem dX0_hungriestOf_62 : decode cX0_hungriestOf 62 = .ok (.iload 4, 2) := by decide +kernel
theorem dX0_hungriestOf_64 : decode cX0_hungriestOf 64 = .ok (.istore_n 2, 1) := by decide +kernel
theorem dX0_hungriestOf_65 : decode cX0_hungriestOf 65 = .ok (.iload 6, 2) := by decide +kernel
theorem dX0_hungriestOf_67 : decode cX0_hungriestOf 67 = .ok (.istore_n 3, 1) := by decide +kernel
theorem dX0_hungriestOf_68 : decode cX0_hungriestOf 68 = .ok (.iinc 4 1, 3) := by decide +kernel
theorem dX0_hungriestOf_71 : decode cX0_hungriestOf 71 = .ok (.goto (-64), 3) := by decide +kernel
theorem dX0_hungriestOf_74 : decode cX0_hungriestOf 74 = .ok (.iload_n 2, 1) := by decide +kernel
theorem dX0_hungriestOf_75 : decode cX0_hungriestOf 75 = .ok (.ireturn, 1) := by decide +kernel
theorem dX0_bury_0 : decode cX0_bury 0 = .ok (.aload_n 0, 1) := by decide +kernel
theorem dX0_bury_1 : decode cX0_bury 1 = .ok (.iconst 1, 1) := by decide +kernel
theorem dX0_bury_2 : decode cX0_bury 2 = .ok (.iload_n 1, 1) := by decide +kernel
theorem dX0_bury_3 : decode cX0_bury 3 = .ok (.ishl, 1) := by decide +kernel
theorem dX0_bury_4 : decode cX0_bury 4 = .ok (.iconst (-1), 1) := by decide +kernel
theorem dX0_bury_5 : decode cX0_bury 5 = .ok (.ixor, 1) := by decide +kernel
theorem dX0_bury_6 : decode cX0_bury 6 = .ok (.invokevirtual 98, 3) := by decide +kernel
theorem dX0_bury_9 : decode cX0_bury 9 = .ok (.istore_n 3, 1) := by decide +kernel
theorem dX0_bury_10 : decode cX0_bury 10 = .ok (.aload_n 0, 1) := by decide +kernel
theorem dX0_bury_11 : decode cX0_bury 11 = .ok (.iload_n 3, 1) := by decide +kernel
theorem dX0_bury_12 : decode cX0_bury 12 = .ok (.invokevirtual 50, 3) := by decide +kernel
theorem dX0_bury_15 : decode cX0_bury 15 = .ok (.astore 4, 2) := by decide +kernel
theorem dX0_bury_17 : decode cX0_bury 17 = .ok (.aload 4, 2) := by decide +kernel
theorem dX0_bury_19 : decode cX0_bury 19 = .ok (.ifnonnull 5, 3) := by decide +kernel
theorem dX0_bury_22 : decode cX0_bury 22 = .ok (.iconst (-1), 1) := by decide +kernel
theorem dX0_bury_23 : decode cX0_bury 23 = .ok (.ireturn, 1) := by decide +kernel
theorem dX0_bury_24 : decode cX0_bury 24 = .ok (.aload 4, 2) := by decide +kernel
theorem dX0_bury_26 : decode cX0_bury 26 = .ok (.dup, 1) := by decide +kernel
theorem dX0_bury_27 : decode cX0_bury 27 = .ok (.getfield 71, 3) := by decide +kernel
theorem dX0_bury_30 : decode cX0_bury 30 = .ok (.aload_n 2, 1) := by decide +kernel
theorem dX0_bury_31 : decode cX0_bury 31 = .ok (.getfield 71, 3) := by decide +kernel
theorem dX0_bury_34 : decode cX0_bury 34 = .ok (.ior, 1) := by decide +kernel
theorem dX0_bury_35 : decode cX0_bury 35 = .ok (.putfield 71, 3) := by decide +kernel
theorem dX0_bury_38 : decode cX0_bury 38 = .ok (.aload_n 2, 1) := by decide +kernel
theorem dX0_bury_39 : decode cX0_bury 39 = .ok (.iconst 0, 1) := by decide +kernel
theorem dX0_bury_40 : decode cX0_bury 40 = .ok (.putfield 71, 3) := by decide +kernel
theorem dX0_bury_43 : decode cX0_bury 43 = .ok (.aload_n 2, 1) := by decide +kernel
theorem dX0_bury_44 : decode cX0_bury 44 = .ok (.iconst 0, 1) := by decide +kernel
theorem dX0_bury_45 : decode cX0_bury 45 = .ok (.putfield 65, 3) := by decide +kernel
theorem dX0_bury_48 : decode cX0_bury 48 = .ok (.aload_n 2, 1) := by decide +kernel
theorem dX0_bury_49 : decode cX0_bury 49 = .ok (.iconst 0, 1) := by decide +kernel
theorem dX0_bury_50 : decode cX0_bury 50 = .ok (.putfield 68, 3) := by decide +kernel
theorem dX0_bury_53 : decode cX0_bury 53 = .ok (.iload_n 3, 1) := by decide +kernel
theorem dX0_bury_54 : decode cX0_bury 54 = .ok (.ireturn, 1) := by decide +kernel
theorem dX0_passDays_0 : decode cX0_passDays 0 = .ok (.iconst 0, 1) := by decide +kernel
theorem dX0_passDays_1 : decode cX0_passDays 1 = .ok (.istore_n 2, 1) := by decide +kernel
theorem dX0_passDays_2 : decode cX0_passDays 2 = .ok (.iload_n 2, 1) := by decide +kernel
theorem dX0_passDays_3 : decode cX0_passDays 3 = .ok (.iload_n 1, 1) := by decide +kernel
theorem dX0_passDays_4 : decode cX0_passDays 4 = .ok (.if_icmp .ge 13, 3) := by decide +kernel
theorem dX0_passDays_7 : decode cX0_passDays 7 = .ok (.aload_n 0, 1) := by decide +kernel
theorem dX0_passDays_8 : decode cX0_passDays 8 = .ok (.invokevirtual 102, 3) := by decide +kernel
theorem dX0_passDays_11 : decode cX0_passDays 11 = .ok (.iinc 2 1, 3) := by decide +kernel
theorem dX0_passDays_14 : decode cX0_passDays 14 = .ok (.goto (-12), 3) := by decide +kernel
theorem dX0_passDays_17 : decode cX0_passDays 17 = .ok (.return_, 1) := by decide +kernel
theorem dX0_passDay_0 : decode cX0_passDay 0 = .ok (.aload_n 0, 1) := by decide +kernel
theorem dX0_passDay_1 : decode cX0_passDay 1 = .ok (.getfield 30, 3) := by decide +kernel
theorem dX0_passDay_4 : decode cX0_passDay 4 = .ok (.aload_n 0, 1) := by decide +kernel
theorem dX0_passDay_5 : decode cX0_passDay 5 = .ok (.invokevirtual 105, 3) := by decide +kernel
theorem dX0_passDay_8 : decode cX0_passDay 8 = .ok (.iaload, 1) := by decide +kernel
theorem dX0_passDay_9 : decode cX0_passDay 9 = .ok (.istore_n 1, 1) := by decide +kernel
theorem dX0_passDay_10 : decode cX0_passDay 10 = .ok (.iload_n 1, 1) := by decide +kernel
theorem dX0_passDay_11 : decode cX0_passDay 11 = .ok (.invokestatic 108, 3) := by decide +kernel
theorem dX0_passDay_14 : decode cX0_passDay 14 = .ok (.istore_n 2, 1) := by decide +kernel
theorem dX0_passDay_15 : decode cX0_passDay 15 = .ok (.iload_n 1, 1) := by decide +kernel
theorem dX0_passDay_16 : decode cX0_passDay 16 = .ok (.invokestatic 111, 3) := by decide +kernel
theorem dX0_passDay_19 : decode cX0_passDay 19 = .ok (.istore_n 3, 1) := by decide +kernel
theorem dX0_passDay_20 : decode cX0_passDay 20 = .ok (.iload_n 3, 1) := by decide +kernel
theorem dX0_passDay_21 : decode cX0_passDay 21 = .ok (.ifCond .le 19, 3) := by decide +kernel
theorem dX0_passDay_24 : decode cX0_passDay 24 = .ok (.aload_n 0, 1) := by decide +kernel
theorem dX0_passDay_25 : decode cX0_passDay 25 = .ok (.aload_n 0, 1) := by decide +kernel
theorem dX0_passDay_26 : decode cX0_passDay 26 = .ok (.aload_n 0, 1) := by decide +kernel
theorem dX0_passDay_27 : decode cX0_passDay 27 = .ok (.iload_n 2, 1) := by decide +kernel
theorem dX0_passDay_28 : decode cX0_passDay 28 = .ok (.invokevirtual 114, 3) := by decide +kernel
theorem dX0_passDay_31 : decode cX0_passDay 31 = .ok (.invokevirtual 98, 3) := by decide +kernel
theorem dX0_passDay_34 : decode cX0_passDay 34 = .ok (.invokevirtual 50, 3) := by decide +kernel
theorem dX0_passDay_37 : decode cX0_passDay 37 = .ok (.goto 4, 3) := by decide +kernel
theorem dX0_passDay_40 : decode cX0_passDay 40 = .ok (.aconst_null, 1) := by decide +kernel
theorem dX0_passDay_41 : decode cX0_passDay 41 = .ok (.astore 4, 2) := by decide +kernel
theorem dX0_passDay_43 : decode cX0_passDay 43 = .ok (.aload 4, 2) := by decide +kernel
theorem dX0_passDay_45 : decode cX0_passDay 45 = .ok (.ifnull 17, 3) := by decide +kernel
theorem dX0_passDay_48 : decode cX0_passDay 48 = .ok (.aload 4, 2) := by decide +kernel
theorem dX0_passDay_50 : decode cX0_passDay 50 = .ok (.iload_n 2, 1) := by decide +kernel
theorem dX0_passDay_51 : decode cX0_passDay 51 = .ok (.iload_n 3, 1) := by decide +kernel
theorem dX0_passDay_52 : decode cX0_passDay 52 = .ok (.aload_n 0, 1) := by decide +kernel
theorem dX0_passDay_53 : decode cX0_passDay 53 = .ok (.getfield 15, 3) := by decide +kernel
theorem dX0_passDay_56 : decode cX0_passDay 56 = .ok (.invokevirtual 117, 3) := by decide +kernel
theorem dX0_passDay_59 : decode cX0_passDay 59 = .ok (.goto 22, 3) := by decide +kernel
theorem dX0_passDay_62 : decode cX0_passDay 62 = .ok (.iload_n 3, 1) := by decide +kernel
theorem dX0_passDay_63 : decode cX0_passDay 63 = .ok (.ifCond .le 18, 3) := by decide +kernel
theorem dX0_passDay_66 : decode cX0_passDay 66 = .ok (.aload_n 0, 1) := by decide +kernel
theorem dX0_passDay_67 : decode cX0_passDay 67 = .ok (.aload_n 0, 1) := by decide +kernel
theorem dX0_passDay_68 : decode cX0_passDay 68 = .ok (.getfield 21, 3) := by decide +kernel
theorem dX0_passDay_71 : decode cX0_passDay 71 = .ok (.iconst 1, 1) := by decide +kernel
theorem dX0_passDay_72 : decode cX0_passDay 72 = .ok (.iadd, 1) := by decide +kernel
theorem dX0_passDay_73 : decode cX0_passDay 73 = .ok (.ldc 121, 2) := by decide +kernel
theorem dX0_passDay_75 : decode cX0_passDay 75 = .ok (.invokestatic 122, 3) := by decide +kernel
theorem dX0_passDay_78 : decode cX0_passDay 78 = .ok (.putfield 21, 3) := by decide +kernel
theorem dX0_passDay_81 : decode cX0_passDay 81 = .ok (.aload_n 0, 1) := by decide +kernel
theorem dX0_passDay_82 : decode cX0_passDay 82 = .ok (.invokevirtual 125, 3) := by decide +kernel
theorem dX0_passDay_85 : decode cX0_passDay 85 = .ok (.aload_n 0, 1) := by decide +kernel
theorem dX0_passDay_86 : decode cX0_passDay 86 = .ok (.invokevirtual 128, 3) := by decide +kernel
theorem dX0_passDay_89 : decode cX0_passDay 89 = .ok (.aload_n 0, 1) := by decide +kernel
theorem dX0_passDay_90 : decode cX0_passDay 90 = .ok (.aload_n 0, 1) := by decide +kernel
theorem dX0_passDay_91 : decode cX0_passDay 91 = .ok (.getfield 9, 3) := by decide +kernel
theorem dX0_passDay_94 : decode cX0_passDay 94 = .ok (.iconst 1, 1) := by decide +kernel
theorem dX0_passDay_95 : decode cX0_passDay 95 = .ok (.iadd, 1) := by decide +kernel
theorem dX0_passDay_96 : decode cX0_passDay 96 = .ok (.ldc 121, 2) := by decide +kernel
theorem dX0_passDay_98 : decode cX0_passDay 98 = .ok (.invokestatic 122, 3) := by decide +kernel
theorem dX0_passDay_101 : decode cX0_passDay 101 = .ok (.putfield 9, 3) := by decide +kernel
theorem dX0_passDay_104 : decode cX0_passDay 104 = .ok (.return_, 1) := by decide +kernel
theorem dX0_letTheOverfullFallIll_0 : decode cX0_letTheOverfullFallIll 0 = .ok (.iconst 0, 1) := by decide +kernel
theorem dX0_letTheOverfullFallIll_1 : decode cX0_letTheOverfullFallIll 1 = .ok (.istore_n 1, 1) := by decide +kernel
theorem dX0_letTheOverfullFallIll_2 : decode cX0_letTheOverfullFallIll 2 = .ok (.iload_n 1, 1) := by decide +kernel
theorem dX0_letTheOverfullFallIll_3 : decode cX0_letTheOverfullFallIll 3 = .ok (.aload_n 0, 1) := by decide +kernel
theorem dX0_letTheOverfullFallIll_4 : decode cX0_letTheOverfullFallIll 4 = .ok (.getfield 27, 3) := by decide +kernel
theorem dX0_letTheOverfullFallIll_7 : decode cX0_letTheOverfullFallIll 7 = .ok (.if_icmp .ge 58, 3) := by decide +kernel
theorem dX0_letTheOverfullFallIll_10 : decode cX0_letTheOverfullFallIll 10 = .ok (.aload_n 0, 1) := by decide +kernel
theorem dX0_letTheOverfullFallIll_11 : decode cX0_letTheOverfullFallIll 11 = .ok (.iload_n 1, 1) := by decide +kernel
theorem dX0_letTheOverfullFallIll_12 : decode cX0_letTheOverfullFallIll 12 = .ok (.invokevirtual 50, 3) := by decide +kernel
theorem dX0_letTheOverfullFallIll_15 : decode cX0_letTheOverfullFallIll 15 = .ok (.astore_n 2, 1) := by decide +kernel
theorem dX0_letTheOverfullFallIll_16 : decode cX0_letTheOverfullFallIll 16 = .ok (.aload_n 2, 1) := by decide +kernel
theorem dX0_letTheOverfullFallIll_17 : decode cX0_letTheOverfullFallIll 17 = .ok (.ifnull 42, 3) := by decide +kernel
theorem dX0_letTheOverfullFallIll_20 : decode cX0_letTheOverfullFallIll 20 = .ok (.aload_n 2, 1) := by decide +kernel
theorem dX0_letTheOverfullFallIll_21 : decode cX0_letTheOverfullFallIll 21 = .ok (.getfield 65, 3) := by decide +kernel
theorem dX0_letTheOverfullFallIll_24 : decode cX0_letTheOverfullFallIll 24 = .ok (.aload_n 2, 1) := by decide +kernel
theorem dX0_letTheOverfullFallIll_25 : decode cX0_letTheOverfullFallIll 25 = .ok (.invokevirtual 80, 3) := by decide +kernel
theorem dX0_letTheOverfullFallIll_28 : decode cX0_letTheOverfullFallIll 28 = .ok (.if_icmp .le 31, 3) := by decide +kernel
theorem dX0_letTheOverfullFallIll_31 : decode cX0_letTheOverfullFallIll 31 = .ok (.aload_n 0, 1) := by decide +kernel
theorem dX0_letTheOverfullFallIll_32 : decode cX0_letTheOverfullFallIll 32 = .ok (.dup, 1) := by decide +kernel
theorem dX0_letTheOverfullFallIll_33 : decode cX0_letTheOverfullFallIll 33 = .ok (.getfield 18, 3) := by decide +kernel
theorem dX0_letTheOverfullFallIll_36 : decode cX0_letTheOverfullFallIll 36 = .ok (.aload_n 2, 1) := by decide +kernel
theorem dX0_letTheOverfullFallIll_37 : decode cX0_letTheOverfullFallIll 37 = .ok (.invokevirtual 88, 3) := by decide +kernel
theorem dX0_letTheOverfullFallIll_40 : decode cX0_letTheOverfullFallIll 40 = .ok (.ifCond .eq 7, 3) := by decide +kernel
theorem dX0_letTheOverfullFallIll_43 : decode cX0_letTheOverfullFallIll 43 = .ok (.iconst 0, 1) := by decide +kernel
theorem dX0_letTheOverfullFallIll_44 : decode cX0_letTheOverfullFallIll 44 = .ok (.goto 7, 3) := by decide +kernel
theorem dX0_letTheOverfullFallIll_47 : decode cX0_letTheOverfullFallIll 47 = .ok (.aload_n 2, 1) := by decide +kernel
theorem dX0_letTheOverfullFallIll_48 : decode cX0_letTheOverfullFallIll 48 = .ok (.getfield 71, 3) := by decide +kernel
theorem dX0_letTheOverfullFallIll_51 : decode cX0_letTheOverfullFallIll 51 = .ok (.ior, 1) := by decide +kernel
theorem dX0_letTheOverfullFallIll_52 : decode cX0_letTheOverfullFallIll 52 = .ok (.putfield 18, 3) := by decide +kernel
theorem dX0_letTheOverfullFallIll_55 : decode cX0_letTheOverfullFallIll 55 = .ok (.aload_n 2, 1) := by decide +kernel
theorem dX0_letTheOverfullFallIll_56 : decode cX0_letTheOverfullFallIll 56 = .ok (.invokevirtual 131, 3) := by decide +kernel
theorem dX0_letTheOverfullFallIll_59 : decode cX0_letTheOverfullFallIll 59 = .ok (.iinc 1 1, 3) := by decide +kernel
theorem dX0_letTheOverfullFallIll_62 : decode cX0_letTheOverfullFallIll 62 = .ok (.goto (-60), 3) := by decide +kernel
theorem dX0_letTheOverfullFallIll_65 : decode cX0_letTheOverfullFallIll 65 = .ok (.return_, 1) := by decide +kernel
theorem dX0_letAllDigest_0 : decode cX0_letAllDigest 0 = .ok (.iconst 0, 1) := by decide +kernel
theorem dX0_letAllDigest_1 : decode cX0_letAllDigest 1 = .ok (.istore_n 1, 1) := by decide +kernel
theorem dX0_letAllDigest_2 : decode cX0_letAllDigest 2 = .ok (.iload_n 1, 1) := by decide +kernel
theorem dX0_letAllDigest_3 : decode cX0_letAllDigest 3 = .ok (.aload_n 0, 1) := by decide +kernel
theorem dX0_letAllDigest_4 : decode cX0_letAllDigest 4 = .ok (.getfield 27, 3) := by decide +kernel
theorem dX0_letAllDigest_7 : decode cX0_letAllDigest 7 = .ok (.if_icmp .ge 44, 3) := by decide +kernel
theorem dX0_letAllDigest_10 : decode cX0_letAllDigest 10 = .ok (.aload_n 0, 1) := by decide +kernel
theorem dX0_letAllDigest_11 : decode cX0_letAllDigest 11 = .ok (.iload_n 1, 1) := by decide +kernel
theorem dX0_letAllDigest_12 : decode cX0_letAllDigest 12 = .ok (.invokevirtual 50, 3) := by decide +kernel
theorem dX0_letAllDigest_15 : decode cX0_letAllDigest 15 = .ok (.astore_n 2, 1) := by decide +kernel
theorem dX0_letAllDigest_16 : decode cX0_letAllDigest 16 = .ok (.aload_n 2, 1) := by decide +kernel
theorem dX0_letAllDigest_17 : decode cX0_letAllDigest 17 = .ok (.ifnull 28, 3) := by decide +kernel
theorem dX0_letAllDigest_20 : decode cX0_letAllDigest 20 = .ok (.aload_n 2, 1) := by decide +kernel
theorem dX0_letAllDigest_21 : decode cX0_letAllDigest 21 = .ok (.aload_n 2, 1) := by decide +kernel
theorem dX0_letAllDigest_22 : decode cX0_letAllDigest 22 = .ok (.getfield 65, 3) := by decide +kernel
theorem dX0_letAllDigest_25 : decode cX0_letAllDigest 25 = .ok (.aload_n 2, 1) := by decide +kernel
theorem dX0_letAllDigest_26 : decode cX0_letAllDigest 26 = .ok (.aload_n 0, 1) := by decide +kernel
theorem dX0_letAllDigest_27 : decode cX0_letAllDigest 27 = .ok (.getfield 15, 3) := by decide +kernel
theorem dX0_letAllDigest_30 : decode cX0_letAllDigest 30 = .ok (.aload_n 0, 1) := by decide +kernel
theorem dX0_letAllDigest_31 : decode cX0_letAllDigest 31 = .ok (.getfield 9, 3) := by decide +kernel
theorem dX0_letAllDigest_34 : decode cX0_letAllDigest 34 = .ok (.invokevirtual 84, 3) := by decide +kernel
theorem dX0_letAllDigest_37 : decode cX0_letAllDigest 37 = .ok (.isub, 1) := by decide +kernel
theorem dX0_letAllDigest_38 : decode cX0_letAllDigest 38 = .ok (.iconst 0, 1) := by decide +kernel
theorem dX0_letAllDigest_39 : decode cX0_letAllDigest 39 = .ok (.invokestatic 134, 3) := by decide +kernel
theorem dX0_letAllDigest_42 : decode cX0_letAllDigest 42 = .ok (.putfield 65, 3) := by decide +kernel
theorem dX0_letAllDigest_45 : decode cX0_letAllDigest 45 = .ok (.iinc 1 1, 3) := by decide +kernel
theorem dX0_letAllDigest_48 : decode cX0_letAllDigest 48 = .ok (.goto (-46), 3) := by decide +kernel
theorem dX0_letAllDigest_51 : decode cX0_letAllDigest 51 = .ok (.return_, 1) := by decide +kernel
theorem dX0_sinsTogether_0 : decode cX0_sinsTogether 0 = .ok (.iconst 0, 1) := by decide +kernel
theorem dX0_sinsTogether_1 : decode cX0_sinsTogether 1 = .ok (.istore_n 2, 1) := by decide +kernel
theorem dX0_sinsTogether_2 : decode cX0_sinsTogether 2 = .ok (.iconst 0, 1) := by decide +kernel
theorem dX0_sinsTogether_3 : decode cX0_sinsTogether 3 = .ok (.istore_n 3, 1) := by decide +kernel
theorem dX0_sinsTogether_4 : decode cX0_sinsTogether 4 = .ok (.iload_n 3, 1) := by decide +kernel
theorem dX0_sinsTogether_5 : decode cX0_sinsTogether 5 = .ok (.aload_n 0, 1) := by decide +kernel
theorem dX0_sinsTogether_6 : decode cX0_sinsTogether 6 = .ok (.getfield 27, 3) := by decide +kernel
theorem dX0_sinsTogether_9 : decode cX0_sinsTogether 9 = .ok (.if_icmp .ge 35, 3) := by decide +kernel
theorem dX0_sinsTogether_12 : decode cX0_sinsTogether 12 = .ok (.aload_n 0, 1) := by decide +kernel
theorem dX0_sinsTogether_13 : decode cX0_sinsTogether 13 = .ok (.iload_n 3, 1) := by decide +kernel
theorem dX0_sinsTogether_14 : decode cX0_sinsTogether 14 = .ok (.invokevirtual 50, 3) := by decide +kernel
theorem dX0_sinsTogether_17 : decode cX0_sinsTogether 17 = .ok (.astore 4, 2) := by decide +kernel
theorem dX0_sinsTogether_19 : decode cX0_sinsTogether 19 = .ok (.iload_n 2, 1) := by decide +kernel
theorem dX0_sinsTogether_20 : decode cX0_sinsTogether 20 = .ok (.aload 4, 2) := by decide +kernel
theorem dX0_sinsTogether_22 : decode cX0_sinsTogether 22 = .ok (.ifnonnull 7, 3) := by decide +kernel
theorem dX0_sinsTogether_25 : decode cX0_sinsTogether 25 = .ok (.iconst 0, 1) := by decide +kernel
theorem dX0_sinsTogether_26 : decode cX0_sinsTogether 26 = .ok (.goto 10, 3) := by decide +kernel
theorem dX0_sinsTogether_29 : decode cX0_sinsTogether 29 = .ok (.aload_n 0, 1) := by decide +kernel
theorem dX0_sinsTogether_30 : decode cX0_sinsTogether 30 = .ok (.aload 4, 2) := by decide +kernel
theorem dX0_sinsTogether_32 : decode cX0_sinsTogether 32 = .ok (.iload_n 1, 1) := by decide +kernel
theorem dX0_sinsTogether_33 : decode cX0_sinsTogether 33 = .ok (.invokevirtual 137, 3) := by decide +kernel
theorem dX0_sinsTogether_36 : decode cX0_sinsTogether 36 = .ok (.ior, 1) := by decide +kernel
theorem dX0_sinsTogether_37 : decode cX0_sinsTogether 37 = .ok (.istore_n 2, 1) := by decide +kernel
theorem dX0_sinsTogether_38 : decode cX0_sinsTogether 38 = .ok (.iinc 3 1, 3) := by decide +kernel
theorem dX0_sinsTogether_41 : decode cX0_sinsTogether 41 = .ok (.goto (-37), 3) := by decide +kernel
theorem dX0_sinsTogether_44 : decode cX0_sinsTogether 44 = .ok (.iload_n 2, 1) := by decide +kernel
theorem dX0_sinsTogether_45 : decode cX0_sinsTogether 45 = .ok (.ireturn, 1) := by decide +kernel
theorem dX0_sumTogether_0 : decode cX0_sumTogether 0 = .ok (.iconst 0, 1) := by decide +kernel
theorem dX0_sumTogether_1 : decode cX0_sumTogether 1 = .ok (.istore_n 2, 1) := by decide +kernel
theorem dX0_sumTogether_2 : decode cX0_sumTogether 2 = .ok (.iconst 0, 1) := by decide +kernel
theorem dX0_sumTogether_3 : decode cX0_sumTogether 3 = .ok (.istore_n 3, 1) := by decide +kernel
theorem dX0_sumTogether_4 : decode cX0_sumTogether 4 = .ok (.iload_n 3, 1) := by decide +kernel
theorem dX0_sumTogether_5 : decode cX0_sumTogether 5 = .ok (.aload_n 0, 1) := by decide +kernel
theorem dX0_sumTogether_6 : decode cX0_sumTogether 6 = .ok (.getfield 27, 3) := by decide +kernel
theorem dX0_sumTogether_9 : decode cX0_sumTogether 9 = .ok (.if_icmp .ge 35, 3) := by decide +kernel
theorem dX0_sumTogether_12 : decode cX0_sumTogether 12 = .ok (.aload_n 0, 1) := by decide +kernel
theorem dX0_sumTogether_13 : decode cX0_sumTogether 13 = .ok (.iload_n 3, 1) := by decide +kernel
theorem dX0_sumTogether_14 : decode cX0_sumTogether 14 = .ok (.invokevirtual 50, 3) := by decide +kernel
theorem dX0_sumTogether_17 : decode cX0_sumTogether 17 = .ok (.astore 4, 2) := by decide +kernel
theorem dX0_sumTogether_19 : decode cX0_sumTogether 19 = .ok (.iload_n 2, 1) := by decide +kernel
theorem dX0_sumTogether_20 : decode cX0_sumTogether 20 = .ok (.aload 4, 2) := by decide +kernel
theorem dX0_sumTogether_22 : decode cX0_sumTogether 22 = .ok (.ifnonnull 7, 3) := by decide +kernel
theorem dX0_sumTogether_25 : decode cX0_sumTogether 25 = .ok (.iconst 0, 1) := by decide +kernel
theorem dX0_sumTogether_26 : decode cX0_sumTogether 26 = .ok (.goto 10, 3) := by decide +kernel
theorem dX0_sumTogether_29 : decode cX0_sumTogether 29 = .ok (.aload_n 0, 1) := by decide +kernel
theorem dX0_sumTogether_30 : decode cX0_sumTogether 30 = .ok (.aload 4, 2) := by decide +kernel
theorem dX0_sumTogether_32 : decode cX0_sumTogether 32 = .ok (.iload_n 1, 1) := by decide +kernel
theorem dX0_sumTogether_33 : decode cX0_sumTogether 33 = .ok (.invokevirtual 137, 3) := by decide +kernel
theorem dX0_sumTogether_36 : decode cX0_sumTogether 36 = .ok (.iadd, 1) := by decide +kernel
theorem dX0_sumTogether_37 : decode cX0_sumTogether 37 = .ok (.istore_n 2, 1) := by decide +kernel
theorem dX0_sumTogether_38 : decode cX0_sumTogether 38 = .ok (.iinc 3 1, 3) := by decide +kernel
theorem dX0_sumTogether_41 : decode cX0_sumTogether 41 = .ok (.goto (-37), 3) := by decide +kernel
theorem dX0_sumTogether_44 : decode cX0_sumTogether 44 = .ok (.iload_n 2, 1) := by decide +kernel
theorem dX0_sumTogether_45 : decode cX0_sumTogether 45 = .ok (.ireturn, 1) := by decide +kernel
theorem dX0_fullest_0 : decode cX0_fullest 0 = .ok (.iconst (-1), 1) := by decide +kernel
theorem dX0_fullest_1 : decode cX0_fullest 1 = .ok (.istore_n 1, 1) := by decide +kernel
theorem dX0_fullest_2 : decode cX0_fullest 2 = .ok (.iconst (-1), 1) := by decide +kernel
theorem dX0_fullest_3 : decode cX0_fullest 3 = .ok (.istore_n 2, 1) := by decide +kernel
theorem dX0_fullest_4 : decode cX0_fullest 4 = .ok (.iconst 0, 1) := by decide +kernel
theorem dX0_fullest_5 : decode cX0_fullest 5 = .ok (.istore_n 3, 1) := by decide +kernel
theorem dX0_fullest_6 : decode cX0_fullest 6 = .ok (.iload_n 3, 1) := by decide +kernel
theorem dX0_fullest_7 : decode cX0_fullest 7 = .ok (.aload_n 0, 1) := by decide +kernel
theorem dX0_fullest_8 : decode cX0_fullest 8 = .ok (.getfield 27, 3) := by decide +kernel
theorem dX0_fullest_11 : decode cX0_fullest 11 = .ok (.if_icmp .ge 38, 3) := by decide +kernel
theorem dX0_fullest_14 : decode cX0_fullest 14 = .ok (.aload_n 0, 1) := by decide +kernel
theorem dX0_fullest_15 : decode cX0_fullest 15 = .ok (.iload_n 3, 1) := by decide +kernel
theorem dX0_fullest_16 : decode cX0_fullest 16 = .ok (.invokevirtual 50, 3) := by decide +kernel
theorem dX0_fullest_19 : decode cX0_fullest 19 = .ok (.astore 4, 2) := by decide +kernel
theorem dX0_fullest_21 : decode cX0_fullest 21 = .ok (.aload 4, 2) := by decide +kernel
theorem dX0_fullest_23 : decode cX0_fullest 23 = .ok (.ifnull 20, 3) := by decide +kernel
theorem dX0_fullest_26 : decode cX0_fullest 26 = .ok (.aload 4, 2) := by decide +kernel
theorem dX0_fullest_28 : decode cX0_fullest 28 = .ok (.getfield 65, 3) := by decide +kernel
theorem dX0_fullest_31 : decode cX0_fullest 31 = .ok (.iload_n 2, 1) := by decide +kernel
theorem dX0_fullest_32 : decode cX0_fullest 32 = .ok (.if_icmp .le 11, 3) := by decide +kernel
theorem dX0_fullest_35 : decode cX0_fullest 35 = .ok (.iload_n 3, 1) := by decide +kernel
theorem dX0_fullest_36 : decode cX0_fullest 36 = .ok (.istore_n 1, 1) := by decide +kernel
theorem dX0_fullest_37 : decode cX0_fullest 37 = .ok (.aload 4, 2) := by decide +kernel
theorem dX0_fullest_39 : decode cX0_fullest 39 = .ok (.getfield 65, 3) := by decide +kernel
theorem dX0_fullest_42 : decode cX0_fullest 42 = .ok (.istore_n 2, 1) := by decide +kernel
theorem dX0_fullest_43 : decode cX0_fullest 43 = .ok (.iinc 3 1, 3) := by decide +kernel
theorem dX0_fullest_46 : decode cX0_fullest 46 = .ok (.goto (-40), 3) := by decide +kernel
theorem dX0_fullest_49 : decode cX0_fullest 49 = .ok (.iload_n 1, 1) := by decide +kernel
theorem dX0_fullest_50 : decode cX0_fullest 50 = .ok (.ireturn, 1) := by decide +kernel
theorem dX0_spotsInUse_0 : decode cX0_spotsInUse 0 = .ok (.iconst 0, 1) := by decide +kernel
theorem dX0_spotsInUse_1 : decode cX0_spotsInUse 1 = .ok (.istore_n 1, 1) := by decide +kernel
theorem dX0_spotsInUse_2 : decode cX0_spotsInUse 2 = .ok (.iconst 0, 1) := by decide +kernel
theorem dX0_spotsInUse_3 : decode cX0_spotsInUse 3 = .ok (.istore_n 2, 1) := by decide +kernel
theorem dX0_spotsInUse_4 : decode cX0_spotsInUse 4 = .ok (.iload_n 2, 1) := by decide +kernel
theorem dX0_spotsInUse_5 : decode cX0_spotsInUse 5 = .ok (.bipush 10, 2) := by decide +kernel
theorem dX0_spotsInUse_7 : decode cX0_spotsInUse 7 = .ok (.if_icmp .ge 22, 3) := by decide +kernel
theorem dX0_spotsInUse_10 : decode cX0_spotsInUse 10 = .ok (.aload_n 0, 1) := by decide +kernel
theorem dX0_spotsInUse_11 : decode cX0_spotsInUse 11 = .ok (.getfield 34, 3) := by decide +kernel
theorem dX0_spotsInUse_14 : decode cX0_spotsInUse 14 = .ok (.iload_n 2, 1) := by decide +kernel
theorem dX0_spotsInUse_15 : decode cX0_spotsInUse 15 = .ok (.iaload, 1) := by decide +kernel
theorem dX0_spotsInUse_16 : decode cX0_spotsInUse 16 = .ok (.iconst (-1), 1) := by decide +kernel
theorem dX0_spotsInUse_17 : decode cX0_spotsInUse 17 = .ok (.if_icmp .eq 6, 3) := by decide +kernel
theorem dX0_spotsInUse_20 : decode cX0_spotsInUse 20 = .ok (.iinc 1 1, 3) := by decide +kernel
theorem dX0_spotsInUse_23 : decode cX0_spotsInUse 23 = .ok (.iinc 2 1, 3) := by decide +kernel
theorem dX0_spotsInUse_26 : decode cX0_spotsInUse 26 = .ok (.goto (-22), 3) := by decide +kernel
theorem dX0_spotsInUse_29 : decode cX0_spotsInUse 29 = .ok (.iload_n 1, 1) := by decide +kernel
theorem dX0_spotsInUse_30 : decode cX0_spotsInUse 30 = .ok (.ireturn, 1) := by decide +kernel
theorem dX0_takeTogether_0 : decode cX0_takeTogether 0 = .ok (.iconst 0, 1) := by decide +kernel
theorem dX0_takeTogether_1 : decode cX0_takeTogether 1 = .ok (.istore_n 3, 1) := by decide +kernel
theorem dX0_takeTogether_2 : decode cX0_takeTogether 2 = .ok (.iconst 0, 1) := by decide +kernel
theorem dX0_takeTogether_3 : decode cX0_takeTogether 3 = .ok (.istore 4, 2) := by decide +kernel
theorem dX0_takeTogether_5 : decode cX0_takeTogether 5 = .ok (.iload 4, 2) := by decide +kernel
theorem dX0_takeTogether_7 : decode cX0_takeTogether 7 = .ok (.aload_n 0, 1) := by decide +kernel
theorem dX0_takeTogether_8 : decode cX0_takeTogether 8 = .ok (.getfield 27, 3) := by decide +kernel
theorem dX0_takeTogether_11 : decode cX0_takeTogether 11 = .ok (.if_icmp .ge 39, 3) := by decide +kernel
theorem dX0_takeTogether_14 : decode cX0_takeTogether 14 = .ok (.aload_n 0, 1) := by decide +kernel
theorem dX0_takeTogether_15 : decode cX0_takeTogether 15 = .ok (.iload 4, 2) := by decide +kernel
theorem dX0_takeTogether_17 : decode cX0_takeTogether 17 = .ok (.invokevirtual 50, 3) := by decide +kernel
theorem dX0_takeTogether_20 : decode cX0_takeTogether 20 = .ok (.astore 5, 2) := by decide +kernel
theorem dX0_takeTogether_22 : decode cX0_takeTogether 22 = .ok (.aload 5, 2) := by decide +kernel
theorem dX0_takeTogether_24 : decode cX0_takeTogether 24 = .ok (.ifnull 20, 3) := by decide +kernel
theorem dX0_takeTogether_27 : decode cX0_takeTogether 27 = .ok (.iload_n 1, 1) := by decide +kernel
theorem dX0_takeTogether_28 : decode cX0_takeTogether 28 = .ok (.iload 4, 2) := by decide +kernel
theorem dX0_takeTogether_30 : decode cX0_takeTogether 30 = .ok (.ishr, 1) := by decide +kernel
theorem dX0_takeTogether_31 : decode cX0_takeTogether 31 = .ok (.iconst 1, 1) := by decide +kernel
theorem dX0_takeTogether_32 : decode cX0_takeTogether 32 = .ok (.iand, 1) := by decide +kernel
theorem dX0_takeTogether_33 : decode cX0_takeTogether 33 = .ok (.ifCond .eq 11, 3) := by decide +kernel
theorem dX0_takeTogether_36 : decode cX0_takeTogether 36 = .ok (.iload_n 3, 1) := by decide +kernel
theorem dX0_takeTogether_37 : decode cX0_takeTogether 37 = .ok (.aload 5, 2) := by decide +kernel
theorem dX0_takeTogether_39 : decode cX0_takeTogether 39 = .ok (.getfield 68, 3) := by decide +kernel
theorem dX0_takeTogether_42 : decode cX0_takeTogether 42 = .ok (.ior, 1) := by decide +kernel
theorem dX0_takeTogether_43 : decode cX0_takeTogether 43 = .ok (.istore_n 3, 1) := by decide +kernel
theorem dX0_takeTogether_44 : decode cX0_takeTogether 44 = .ok (.iinc 4 1, 3) := by decide +kernel
theorem dX0_takeTogether_47 : decode cX0_takeTogether 47 = .ok (.goto (-42), 3) := by decide +kernel
theorem dX0_takeTogether_50 : decode cX0_takeTogether 50 = .ok (.iload_n 2, 1) := by decide +kernel
theorem dX0_takeTogether_51 : decode cX0_takeTogether 51 = .ok (.iload_n 3, 1) := by decide +kernel
theorem dX0_takeTogether_52 : decode cX0_takeTogether 52 = .ok (.iconst (-1), 1) := by decide +kernel
theorem dX0_takeTogether_53 : decode cX0_takeTogether 53 = .ok (.ixor, 1) := by decide +kernel
theorem dX0_takeTogether_54 : decode cX0_takeTogether 54 = .ok (.iand, 1) := by decide +kernel
theorem dX0_takeTogether_55 : decode cX0_takeTogether 55 = .ok (.ifCond .ne 7, 3) := by decide +kernel
theorem dX0_takeTogether_58 : decode cX0_takeTogether 58 = .ok (.iconst 1, 1) := by decide +kernel
theorem dX0_takeTogether_59 : decode cX0_takeTogether 59 = .ok (.goto 4, 3) := by decide +kernel
theorem dX0_takeTogether_62 : decode cX0_takeTogether 62 = .ok (.iconst 0, 1) := by decide +kernel
theorem dX0_takeTogether_63 : decode cX0_takeTogether 63 = .ok (.ireturn, 1) := by decide +kernel
theorem dX0_fewestTaking_0 : decode cX0_fewestTaking 0 = .ok (.iconst 0, 1) := by decide +kernel
theorem dX0_fewestTaking_1 : decode cX0_fewestTaking 1 = .ok (.istore_n 2, 1) := by decide +kernel
theorem dX0_fewestTaking_2 : decode cX0_fewestTaking 2 = .ok (.iload_n 2, 1) := by decide +kernel
theorem dX0_fewestTaking_3 : decode cX0_fewestTaking 3 = .ok (.aload_n 0, 1) := by decide +kernel
theorem dX0_fewestTaking_4 : decode cX0_fewestTaking 4 = .ok (.getfield 27, 3) := by decide +kernel
theorem dX0_fewestTaking_7 : decode cX0_fewestTaking 7 = .ok (.if_icmp .gt 46, 3) := by decide +kernel
theorem dX0_fewestTaking_10 : decode cX0_fewestTaking 10 = .ok (.iconst 0, 1) := by decide +kernel
theorem dX0_fewestTaking_11 : decode cX0_fewestTaking 11 = .ok (.istore_n 3, 1) := by decide +kernel
theorem dX0_fewestTaking_12 : decode cX0_fewestTaking 12 = .ok (.iload_n 3, 1) := by decide +kernel
theorem dX0_fewestTaking_13 : decode cX0_fewestTaking 13 = .ok (.iconst 1, 1) := by decide +kernel
theorem dX0_fewestTaking_14 : decode cX0_fewestTaking 14 = .ok (.aload_n 0, 1) := by decide +kernel
theorem dX0_fewestTaking_15 : decode cX0_fewestTaking 15 = .ok (.getfield 27, 3) := by decide +kernel
theorem dX0_fewestTaking_18 : decode cX0_fewestTaking 18 = .ok (.ishl, 1) := by decide +kernel
theorem dX0_fewestTaking_19 : decode cX0_fewestTaking 19 = .ok (.if_icmp .ge 28, 3) := by decide +kernel
theorem dX0_fewestTaking_22 : decode cX0_fewestTaking 22 = .ok (.iload_n 3, 1) := by decide +kernel
theorem dX0_fewestTaking_23 : decode cX0_fewestTaking 23 = .ok (.invokestatic 141, 3) := by decide +kernel
theorem dX0_fewestTaking_26 : decode cX0_fewestTaking 26 = .ok (.iload_n 2, 1) := by decide +kernel
theorem dX0_fewestTaking_27 : decode cX0_fewestTaking 27 = .ok (.if_icmp .ne 14, 3) := by decide +kernel
theorem dX0_fewestTaking_30 : decode cX0_fewestTaking 30 = .ok (.aload_n 0, 1) := by decide +kernel
theorem dX0_fewestTaking_31 : decode cX0_fewestTaking 31 = .ok (.iload_n 3, 1) := by decide +kernel
theorem dX0_fewestTaking_32 : decode cX0_fewestTaking 32 = .ok (.iload_n 1, 1) := by decide +kernel
theorem dX0_fewestTaking_33 : decode cX0_fewestTaking 33 = .ok (.invokevirtual 146, 3) := by decide +kernel
theorem dX0_fewestTaking_36 : decode cX0_fewestTaking 36 = .ok (.ifCond .eq 5, 3) := by decide +kernel
theorem dX0_fewestTaking_39 : decode cX0_fewestTaking 39 = .ok (.iload_n 3, 1) := by decide +kernel
theorem dX0_fewestTaking_40 : decode cX0_fewestTaking 40 = .ok (.ireturn, 1) := by decide +kernel
theorem dX0_fewestTaking_41 : decode cX0_fewestTaking 41 = .ok (.iinc 3 1, 3) := by decide +kernel
theorem dX0_fewestTaking_44 : decode cX0_fewestTaking 44 = .ok (.goto (-32), 3) := by decide +kernel
theorem dX0_fewestTaking_47 : decode cX0_fewestTaking 47 = .ok (.iinc 2 1, 3) := by decide +kernel
theorem dX0_fewestTaking_50 : decode cX0_fewestTaking 50 = .ok (.goto (-48), 3) := by decide +kernel
theorem dX0_fewestTaking_53 : decode cX0_fewestTaking 53 = .ok (.iconst (-1), 1) := by decide +kernel
theorem dX0_fewestTaking_54 : decode cX0_fewestTaking 54 = .ok (.ireturn, 1) := by decide +kernel
theorem dX1_init_0 : decode cX1_init 0 = .ok (.aload_n 0, 1) := by decide +kernel
theorem dX1_init_1 : decode cX1_init 1 = .ok (.invokespecial 5, 3) := by decide +kernel
theorem dX1_init_4 : decode cX1_init 4 = .ok (.return_, 1) := by decide +kernel
theorem dX1_isKind_0 : decode cX1_isKind 0 = .ok (.iload_n 0, 1) := by decide +kernel
theorem dX1_isKind_1 : decode cX1_isKind 1 = .ok (.bipush 6, 2) := by decide +kernel
theorem dX1_isKind_3 : decode cX1_isKind 3 = .ok (.invokestatic 11, 3) := by decide +kernel
theorem dX1_isKind_6 : decode cX1_isKind 6 = .ok (.ireturn, 1) := by decide +kernel
theorem dX1_mayBe_0 : decode cX1_mayBe 0 = .ok (.iload_n 0, 1) := by decide +kernel
theorem dX1_mayBe_1 : decode cX1_mayBe 1 = .ok (.tableswitch 68 0 5 #[39, 44, 52, 52, 60, 60], 39) := by decide +kernel
theorem dX1_mayBe_40 : decode cX1_mayBe 40 = .ok (.iload_n 1, 1) := by decide +kernel
theorem dX1_mayBe_41 : decode cX1_mayBe 41 = .ok (.invokestatic 15, 3) := by decide +kernel
theorem dX1_mayBe_44 : decode cX1_mayBe 44 = .ok (.ireturn, 1) := by decide +kernel
theorem dX1_mayBe_45 : decode cX1_mayBe 45 = .ok (.iload_n 1, 1) := by decide +kernel
theorem dX1_mayBe_46 : decode cX1_mayBe 46 = .ok (.sipush 999, 3) := by decide +kernel
theorem dX1_mayBe_49 : decode cX1_mayBe 49 = .ok (.invokestatic 11, 3) := by decide +kernel
theorem dX1_mayBe_52 : decode cX1_mayBe 52 = .ok (.ireturn, 1) := by decide +kernel
theorem dX1_mayBe_53 : decode cX1_mayBe 53 = .ok (.iload_n 1, 1) := by decide +kernel
theorem dX1_mayBe_54 : decode cX1_mayBe 54 = .ok (.sipush 255, 3) := by decide +kernel
theorem dX1_mayBe_57 : decode cX1_mayBe 57 = .ok (.invokestatic 11, 3) := by decide +kernel
theorem dX1_mayBe_60 : decode cX1_mayBe 60 = .ok (.ireturn, 1) := by decide +kernel
theorem dX1_mayBe_61 : decode cX1_mayBe 61 = .ok (.iload_n 1, 1) := by decide +kernel
theorem dX1_mayBe_62 : decode cX1_mayBe 62 = .ok (.sipush 9999, 3) := by decide +kernel
theorem dX1_mayBe_65 : decode cX1_mayBe 65 = .ok (.invokestatic 11, 3) := by decide +kernel
theorem dX1_mayBe_68 : decode cX1_mayBe 68 = .ok (.ireturn, 1) := by decide +kernel
theorem dX1_mayBe_69 : decode cX1_mayBe 69 = .ok (.iconst 0, 1) := by decide +kernel
theorem dX1_mayBe_70 : decode cX1_mayBe 70 = .ok (.ireturn, 1) := by decide +kernel
theorem dX1_begin_0 : decode cX1_begin 0 = .ok (.aload_n 0, 1) := by decide +kernel
theorem dX1_begin_1 : decode cX1_begin 1 = .ok (.iload_n 1, 1) := by decide +kernel
theorem dX1_begin_2 : decode cX1_begin 2 = .ok (.putfield 19, 3) := by decide +kernel
theorem dX1_begin_5 : decode cX1_begin 5 = .ok (.aload_n 0, 1) := by decide +kernel
theorem dX1_begin_6 : decode cX1_begin 6 = .ok (.iconst 0, 1) := by decide +kernel
theorem dX1_begin_7 : decode cX1_begin 7 = .ok (.putfield 23, 3) := by decide +kernel
theorem dX1_begin_10 : decode cX1_begin 10 = .ok (.aload_n 0, 1) := by decide +kernel
theorem dX1_begin_11 : decode cX1_begin 11 = .ok (.iload_n 2, 1) := by decide +kernel
theorem dX1_begin_12 : decode cX1_begin 12 = .ok (.putfield 26, 3) := by decide +kernel
theorem dX1_begin_15 : decode cX1_begin 15 = .ok (.aload_n 0, 1) := by decide +kernel
theorem dX1_begin_16 : decode cX1_begin 16 = .ok (.iconst 0, 1) := by decide +kernel
theorem dX1_begin_17 : decode cX1_begin 17 = .ok (.putfield 29, 3) := by decide +kernel
theorem dX1_begin_20 : decode cX1_begin 20 = .ok (.aload_n 0, 1) := by decide +kernel
theorem dX1_begin_21 : decode cX1_begin 21 = .ok (.iconst 0, 1) := by decide +kernel
theorem dX1_begin_22 : decode cX1_begin 22 = .ok (.putfield 32, 3) := by decide +kernel
theorem dX1_begin_25 : decode cX1_begin 25 = .ok (.aload_n 0, 1) := by decide +kernel
theorem dX1_begin_26 : decode cX1_begin 26 = .ok (.iconst 0, 1) := by decide +kernel
theorem dX1_begin_27 : decode cX1_begin 27 = .ok (.putfield 35, 3) := by decide +kernel
theorem dX1_begin_30 : decode cX1_begin 30 = .ok (.return_, 1) := by decide +kernel
theorem dX1_becomeLike_0 : decode cX1_becomeLike 0 = .ok (.aload_n 0, 1) := by decide +kernel
theorem dX1_becomeLike_1 : decode cX1_becomeLike 1 = .ok (.aload_n 1, 1) := by decide +kernel
theorem dX1_becomeLike_2 : decode cX1_becomeLike 2 = .ok (.getfield 19, 3) := by decide +kernel
theorem dX1_becomeLike_5 : decode cX1_becomeLike 5 = .ok (.putfield 19, 3) := by decide +kernel
theorem dX1_becomeLike_8 : decode cX1_becomeLike 8 = .ok (.aload_n 0, 1) := by decide +kernel
theorem dX1_becomeLike_9 : decode cX1_becomeLike 9 = .ok (.aload_n 1, 1) := by decide +kernel
theorem dX1_becomeLike_10 : decode cX1_becomeLike 10 = .ok (.getfield 23, 3) := by decide +kernel
theorem dX1_becomeLike_13 : decode cX1_becomeLike 13 = .ok (.putfield 23, 3) := by decide +kernel
theorem dX1_becomeLike_16 : decode cX1_becomeLike 16 = .ok (.aload_n 0, 1) := by decide +kernel
theorem dX1_becomeLike_17 : decode cX1_becomeLike 17 = .ok (.aload_n 1, 1) := by decide +kernel
theorem dX1_becomeLike_18 : decode cX1_becomeLike 18 = .ok (.getfield 26, 3) := by decide +kernel
theorem dX1_becomeLike_21 : decode cX1_becomeLike 21 = .ok (.putfield 26, 3) := by decide +kernel
theorem dX1_becomeLike_24 : decode cX1_becomeLike 24 = .ok (.aload_n 0, 1) := by decide +kernel
theorem dX1_becomeLike_25 : decode cX1_becomeLike 25 = .ok (.aload_n 1, 1) := by decide +kernel
theorem dX1_becomeLike_26 : decode cX1_becomeLike 26 = .ok (.getfield 29, 3) := by decide +kernel
theorem dX1_becomeLike_29 : decode cX1_becomeLike 29 = .ok (.putfield 29, 3) := by decide +kernel
theorem dX1_becomeLike_32 : decode cX1_becomeLike 32 = .ok (.aload_n 0, 1) := by decide +kernel
theorem dX1_becomeLike_33 : decode cX1_becomeLike 33 = .ok (.aload_n 1, 1) := by decide +kernel
theorem dX1_becomeLike_34 : decode cX1_becomeLike 34 = .ok (.getfield 32, 3) := by decide +kernel
theorem dX1_becomeLike_37 : decode cX1_becomeLike 37 = .ok (.putfield 32, 3) := by decide +kernel
theorem dX1_becomeLike_40 : decode cX1_becomeLike 40 = .ok (.aload_n 0, 1) := by decide +kernel
theorem dX1_becomeLike_41 : decode cX1_becomeLike 41 = .ok (.aload_n 1, 1) := by decide +kernel
theorem dX1_becomeLike_42 : decode cX1_becomeLike 42 = .ok (.getfield 35, 3) := by decide +kernel
theorem dX1_becomeLike_45 : decode cX1_becomeLike 45 = .ok (.putfield 35, 3) := by decide +kernel
theorem dX1_becomeLike_48 : decode cX1_becomeLike 48 = .ok (.return_, 1) := by decide +kernel
theorem dX1_put_0 : decode cX1_put 0 = .ok (.iload_n 1, 1) := by decide +kernel
theorem dX1_put_1 : decode cX1_put 1 = .ok (.tableswitch 87 0 5 #[39, 47, 55, 63, 71, 79], 39) := by decide +kernel
theorem dX1_put_40 : decode cX1_put 40 = .ok (.aload_n 0, 1) := by decide +kernel
theorem dX1_put_41 : decode cX1_put 41 = .ok (.iload_n 2, 1) := by decide +kernel
theorem dX1_put_42 : decode cX1_put 42 = .ok (.putfield 19, 3) := by decide +kernel
theorem dX1_put_45 : decode cX1_put 45 = .ok (.goto 43, 3) := by decide +kernel
theorem dX1_put_48 : decode cX1_put 48 = .ok (.aload_n 0, 1) := by decide +kernel
theorem dX1_put_49 : decode cX1_put 49 = .ok (.iload_n 2, 1) := by decide +kernel
theorem dX1_put_50 : decode cX1_put 50 = .ok (.putfield 23, 3) := by decide +kernel
theorem dX1_put_53 : decode cX1_put 53 = .ok (.goto 35, 3) := by decide +kernel
theorem dX1_put_56 : decode cX1_put 56 = .ok (.aload_n 0, 1) := by decide +kernel
theorem dX1_put_57 : decode cX1_put 57 = .ok (.iload_n 2, 1) := by decide +kernel
theorem dX1_put_58 : decode cX1_put 58 = .ok (.putfield 26, 3) := by decide +kernel
theorem dX1_put_61 : decode cX1_put 61 = .ok (.goto 27, 3) := by decide +kernel
theorem dX1_put_64 : decode cX1_put 64 = .ok (.aload_n 0, 1) := by decide +kernel
theorem dX1_put_65 : decode cX1_put 65 = .ok (.iload_n 2, 1) := by decide +kernel
theorem dX1_put_66 : decode cX1_put 66 = .ok (.putfield 29, 3) := by decide +kernel
theorem dX1_put_69 : decode cX1_put 69 = .ok (.goto 19, 3) := by decide +kernel
theorem dX1_put_72 : decode cX1_put 72 = .ok (.aload_n 0, 1) := by decide +kernel
theorem dX1_put_73 : decode cX1_put 73 = .ok (.iload_n 2, 1) := by decide +kernel
theorem dX1_put_74 : decode cX1_put 74 = .ok (.putfield 32, 3) := by decide +kernel
theorem dX1_put_77 : decode cX1_put 77 = .ok (.goto 11, 3) := by decide +kernel
theorem dX1_put_80 : decode cX1_put 80 = .ok (.aload_n 0, 1) := by decide +kernel
theorem dX1_put_81 : decode cX1_put 81 = .ok (.iload_n 2, 1) := by decide +kernel
theorem dX1_put_82 : decode cX1_put 82 = .ok (.putfield 35, 3) := by decide +kernel
theorem dX1_put_85 : decode cX1_put 85 = .ok (.goto 3, 3) := by decide +kernel
theorem dX1_put_88 : decode cX1_put 88 = .ok (.return_, 1) := by decide +kernel
theorem dX1_isOneOf_0 : decode cX1_isOneOf 0 = .ok (.aload_n 0, 1) := by decide +kernel
theorem dX1_isOneOf_1 : decode cX1_isOneOf 1 = .ok (.getfield 19, 3) := by decide +kernel
theorem dX1_isOneOf_4 : decode cX1_isOneOf 4 = .ok (.istore_n 2, 1) := by decide +kernel
theorem dX1_isOneOf_5 : decode cX1_isOneOf 5 = .ok (.iconst 0, 1) := by decide +kernel
theorem dX1_isOneOf_6 : decode cX1_isOneOf 6 = .ok (.istore_n 3, 1) := by decide +kernel
theorem dX1_isOneOf_7 : decode cX1_isOneOf 7 = .ok (.iload_n 3, 1) := by decide +kernel
theorem dX1_isOneOf_8 : decode cX1_isOneOf 8 = .ok (.bipush 7, 2) := by decide +kernel
theorem dX1_isOneOf_10 : decode cX1_isOneOf 10 = .ok (.if_icmp .ge 29, 3) := by decide +kernel
theorem dX1_isOneOf_13 : decode cX1_isOneOf 13 = .ok (.iload_n 2, 1) := by decide +kernel
theorem dX1_isOneOf_14 : decode cX1_isOneOf 14 = .ok (.invokestatic 15, 3) := by decide +kernel
theorem dX1_isOneOf_17 : decode cX1_isOneOf 17 = .ok (.ifCond .eq 22, 3) := by decide +kernel
theorem dX1_isOneOf_20 : decode cX1_isOneOf 20 = .ok (.iload_n 2, 1) := by decide +kernel
theorem dX1_isOneOf_21 : decode cX1_isOneOf 21 = .ok (.iload_n 1, 1) := by decide +kernel
theorem dX1_isOneOf_22 : decode cX1_isOneOf 22 = .ok (.if_icmp .ne 5, 3) := by decide +kernel
theorem dX1_isOneOf_25 : decode cX1_isOneOf 25 = .ok (.iconst 1, 1) := by decide +kernel
theorem dX1_isOneOf_26 : decode cX1_isOneOf 26 = .ok (.ireturn, 1) := by decide +kernel
theorem dX1_isOneOf_27 : decode cX1_isOneOf 27 = .ok (.getstatic 38, 3) := by decide +kernel
theorem dX1_isOneOf_30 : decode cX1_isOneOf 30 = .ok (.iload_n 2, 1) := by decide +kernel
theorem dX1_isOneOf_31 : decode cX1_isOneOf 31 = .ok (.iaload, 1) := by decide +kernel
theorem dX1_isOneOf_32 : decode cX1_isOneOf 32 = .ok (.istore_n 2, 1) := by decide +kernel
theorem dX1_isOneOf_33 : decode cX1_isOneOf 33 = .ok (.iinc 3 1, 3) := by decide +kernel
theorem dX1_isOneOf_36 : decode cX1_isOneOf 36 = .ok (.goto (-29), 3) := by decide +kernel
theorem dX1_isOneOf_39 : decode cX1_isOneOf 39 = .ok (.iconst 0, 1) := by decide +kernel
theorem dX1_isOneOf_40 : decode cX1_isOneOf 40 = .ok (.ireturn, 1) := by decide +kernel
theorem dX1_holding_0 : decode cX1_holding 0 = .ok (.bipush 40, 2) := by decide +kernel
theorem dX1_holding_2 : decode cX1_holding 2 = .ok (.iconst 5, 1) := by decide +kernel
theorem dX1_holding_3 : decode cX1_holding 3 = .ok (.aload_n 0, 1) := by decide +kernel
theorem dX1_holding_4 : decode cX1_holding 4 = .ok (.getfield 29, 3) := by decide +kernel
theorem dX1_holding_7 : decode cX1_holding 7 = .ok (.invokestatic 42, 3) := by decide +kernel
theorem dX1_holding_10 : decode cX1_holding 10 = .ok (.imul, 1) := by decide +kernel
theorem dX1_holding_11 : decode cX1_holding 11 = .ok (.iadd, 1) := by decide +kernel
theorem dX1_holding_12 : decode cX1_holding 12 = .ok (.istore_n 1, 1) := by decide +kernel
theorem dX1_holding_13 : decode cX1_holding 13 = .ok (.aload_n 0, 1) := by decide +kernel
theorem dX1_holding_14 : decode cX1_holding 14 = .ok (.getfield 29, 3) := by decide +kernel
theorem dX1_holding_17 : decode cX1_holding 17 = .ok (.ifCond .ne 8, 3) := by decide +kernel
theorem dX1_holding_20 : decode cX1_holding 20 = .ok (.bipush 30, 2) := by decide +kernel
theorem dX1_holding_22 : decode cX1_holding 22 = .ok (.goto 5, 3) := by decide +kernel
theorem dX1_holding_25 : decode cX1_holding 25 = .ok (.bipush 60, 2) := by decide +kernel
theorem dX1_holding_27 : decode cX1_holding 27 = .ok (.istore_n 2, 1) := by decide +kernel
theorem dX1_holding_28 : decode cX1_holding 28 = .ok (.aload_n 0, 1) := by decide +kernel
theorem dX1_holding_29 : decode cX1_holding 29 = .ok (.getfield 19, 3) := by decide +kernel
theorem dX1_holding_32 : decode cX1_holding 32 = .ok (.tableswitch 69 1 6 #[40, 49, 43, 45, 56, 51], 40) := by decide +kernel
theorem dX1_holding_72 : decode cX1_holding 72 = .ok (.bipush 40, 2) := by decide +kernel
theorem dX1_holding_74 : decode cX1_holding 74 = .ok (.ireturn, 1) := by decide +kernel
theorem dX1_holding_75 : decode cX1_holding 75 = .ok (.iload_n 1, 1) := by decide +kernel
theorem dX1_holding_76 : decode cX1_holding 76 = .ok (.ireturn, 1) := by decide +kernel
theorem dX1_holding_77 : decode cX1_holding 77 = .ok (.iconst 2, 1) := by decide +kernel
theorem dX1_holding_78 : decode cX1_holding 78 = .ok (.iload_n 1, 1) := by decide +kernel
theorem dX1_holding_79 : decode cX1_holding 79 = .ok (.imul, 1) := by decide +kernel
theorem dX1_holding_80 : decode cX1_holding 80 = .ok (.ireturn, 1) := by decide +kernel
theorem dX1_holding_81 : decode cX1_holding 81 = .ok (.iload_n 2, 1) := by decide +kernel
theorem dX1_holding_82 : decode cX1_holding 82 = .ok (.ireturn, 1) := by decide +kernel
theorem dX1_holding_83 : decode cX1_holding 83 = .ok (.iload_n 2, 1) := by decide +kernel
theorem dX1_holding_84 : decode cX1_holding 84 = .ok (.bipush 40, 2) := by decide +kernel
theorem dX1_holding_86 : decode cX1_holding 86 = .ok (.iadd, 1) := by decide +kernel
theorem dX1_holding_87 : decode cX1_holding 87 = .ok (.ireturn, 1) := by decide +kernel
theorem dX1_holding_88 : decode cX1_holding 88 = .ok (.bipush 60, 2) := by decide +kernel
theorem dX1_holding_90 : decode cX1_holding 90 = .ok (.aload_n 0, 1) := by decide +kernel
theorem dX1_holding_91 : decode cX1_holding 91 = .ok (.getfield 32, 3) := by decide +kernel
theorem dX1_holding_94 : decode cX1_holding 94 = .ok (.iadd, 1) := by decide +kernel
theorem dX1_holding_95 : decode cX1_holding 95 = .ok (.bipush 99, 2) := by decide +kernel
theorem dX1_holding_97 : decode cX1_holding 97 = .ok (.invokestatic 48, 3) := by decide +kernel
theorem dX1_holding_100 : decode cX1_holding 100 = .ok (.ireturn, 1) := by decide +kernel
theorem dX1_holding_101 : decode cX1_holding 101 = .ok (.bipush 60, 2) := by decide +kernel
theorem dX1_holding_103 : decode cX1_holding 103 = .ok (.ireturn, 1) := by decide +kernel
theorem dX1_swelling_0 : decode cX1_swelling 0 = .ok (.iload_n 2, 1) := by decide +kernel
theorem dX1_swelling_1 : decode cX1_swelling 1 = .ok (.iload_n 3, 1) := by decide +kernel
theorem dX1_swelling_2 : decode cX1_swelling 2 = .ok (.isub, 1) := by decide +kernel
theorem dX1_swelling_3 : decode cX1_swelling 3 = .ok (.iconst 0, 1) := by decide +kernel
theorem dX1_swelling_4 : decode cX1_swelling 4 = .ok (.invokestatic 54, 3) := by decide +kernel
theorem dX1_swelling_7 : decode cX1_swelling 7 = .ok (.istore 4, 2) := by decide +kernel
theorem dX1_swelling_9 : decode cX1_swelling 9 = .ok (.iload_n 1, 1) := by decide +kernel
theorem dX1_swelling_10 : decode cX1_swelling 10 = .ok (.iconst 3, 1) := by decide +kernel
theorem dX1_swelling_11 : decode cX1_swelling 11 = .ok (.if_icmp .ne 9, 3) := by decide +kernel
theorem dX1_swelling_14 : decode cX1_swelling 14 = .ok (.iload_n 2, 1) := by decide +kernel
theorem dX1_swelling_15 : decode cX1_swelling 15 = .ok (.iconst 3, 1) := by decide +kernel
theorem dX1_swelling_16 : decode cX1_swelling 16 = .ok (.idiv, 1) := by decide +kernel
theorem dX1_swelling_17 : decode cX1_swelling 17 = .ok (.goto 4, 3) := by decide +kernel
theorem dX1_swelling_20 : decode cX1_swelling 20 = .ok (.iload_n 2, 1) := by decide +kernel
theorem dX1_swelling_21 : decode cX1_swelling 21 = .ok (.istore 5, 2) := by decide +kernel
theorem dX1_swelling_23 : decode cX1_swelling 23 = .ok (.aload_n 0, 1) := by decide +kernel
theorem dX1_swelling_24 : decode cX1_swelling 24 = .ok (.getfield 19, 3) := by decide +kernel
theorem dX1_swelling_27 : decode cX1_swelling 27 = .ok (.tableswitch 84 1 6 #[37, 56, 40, 40, 64, 59], 37) := by decide +kernel
theorem dX1_swelling_64 : decode cX1_swelling 64 = .ok (.iload 4, 2) := by decide +kernel
theorem dX1_swelling_66 : decode cX1_swelling 66 = .ok (.ireturn, 1) := by decide +kernel
theorem dX1_swelling_67 : decode cX1_swelling 67 = .ok (.iload_n 1, 1) := by decide +kernel
theorem dX1_swelling_68 : decode cX1_swelling 68 = .ok (.iconst 2, 1) := by decide +kernel
theorem dX1_swelling_69 : decode cX1_swelling 69 = .ok (.irem, 1) := by decide +kernel
theorem dX1_swelling_70 : decode cX1_swelling 70 = .ok (.ifCond .ne 10, 3) := by decide +kernel
theorem dX1_swelling_73 : decode cX1_swelling 73 = .ok (.iload 4, 2) := by decide +kernel
theorem dX1_swelling_75 : decode cX1_swelling 75 = .ok (.iconst 5, 1) := by decide +kernel
theorem dX1_swelling_76 : decode cX1_swelling 76 = .ok (.iadd, 1) := by decide +kernel
theorem dX1_swelling_77 : decode cX1_swelling 77 = .ok (.goto 5, 3) := by decide +kernel
theorem dX1_swelling_80 : decode cX1_swelling 80 = .ok (.iload 4, 2) := by decide +kernel
theorem dX1_swelling_82 : decode cX1_swelling 82 = .ok (.ireturn, 1) := by decide +kernel
theorem dX1_swelling_83 : decode cX1_swelling 83 = .ok (.iload 5, 2) := by decide +kernel
theorem dX1_swelling_85 : decode cX1_swelling 85 = .ok (.ireturn, 1) := by decide +kernel
theorem dX1_swelling_86 : decode cX1_swelling 86 = .ok (.iload 5, 2) := by decide +kernel
theorem dX1_swelling_88 : decode cX1_swelling 88 = .ok (.iconst 2, 1) := by decide +kernel
theorem dX1_swelling_89 : decode cX1_swelling 89 = .ok (.idiv, 1) := by decide +kernel
theorem dX1_swelling_90 : decode cX1_swelling 90 = .ok (.ireturn, 1) := by decide +kernel
theorem dX1_swelling_91 : decode cX1_swelling 91 = .ok (.aload_n 0, 1) := by decide +kernel
theorem dX1_swelling_92 : decode cX1_swelling 92 = .ok (.getfield 29, 3) := by decide +kernel
theorem dX1_swelling_95 : decode cX1_swelling 95 = .ok (.iload_n 1, 1) := by decide +kernel
theorem dX1_swelling_96 : decode cX1_swelling 96 = .ok (.ishr, 1) := by decide +kernel
theorem dX1_swelling_97 : decode cX1_swelling 97 = .ok (.iconst 1, 1) := by decide +kernel
theorem dX1_swelling_98 : decode cX1_swelling 98 = .ok (.iand, 1) := by decide +kernel
theorem dX1_swelling_99 : decode cX1_swelling 99 = .ok (.ifCond .eq 10, 3) := by decide +kernel
theorem dX1_swelling_102 : decode cX1_swelling 102 = .ok (.iload_n 2, 1) := by decide +kernel
theorem dX1_swelling_103 : decode cX1_swelling 103 = .ok (.bipush 10, 2) := by decide +kernel
theorem dX1_swelling_105 : decode cX1_swelling 105 = .ok (.iadd, 1) := by decide +kernel
theorem dX1_swelling_106 : decode cX1_swelling 106 = .ok (.goto 4, 3) := by decide +kernel
theorem dX1_swelling_109 : decode cX1_swelling 109 = .ok (.iload_n 2, 1) := by decide +kernel
theorem dX1_swelling_110 : decode cX1_swelling 110 = .ok (.ireturn, 1) := by decide +kernel
theorem dX1_swelling_111 : decode cX1_swelling 111 = .ok (.iload_n 2, 1) := by decide +kernel
theorem dX1_swelling_112 : decode cX1_swelling 112 = .ok (.ireturn, 1) := by decide +kernel
theorem dX1_digesting_0 : decode cX1_digesting 0 = .ok (.aload_n 0, 1) := by decide +kernel
theorem dX1_digesting_1 : decode cX1_digesting 1 = .ok (.getfield 19, 3) := by decide +kernel
theorem dX1_digesting_4 : decode cX1_digesting 4 = .ok (.tableswitch 77 1 6 #[40, 56, 44, 54, 62, 59], 40) := by decide +kernel
theorem dX1_digesting_44 : decode cX1_digesting 44 = .ok (.iconst 5, 1) := by decide +kernel
theorem dX1_digesting_45 : decode cX1_digesting 45 = .ok (.iload_n 1, 1) := by decide +kernel
theorem dX1_digesting_46 : decode cX1_digesting 46 = .ok (.iadd, 1) := by decide +kernel
theorem dX1_digesting_47 : decode cX1_digesting 47 = .ok (.ireturn, 1) := by decide +kernel
theorem dX1_digesting_48 : decode cX1_digesting 48 = .ok (.iconst 5, 1) := by decide +kernel
theorem dX1_digesting_49 : decode cX1_digesting 49 = .ok (.iload_n 1, 1) := by decide +kernel
theorem dX1_digesting_50 : decode cX1_digesting 50 = .ok (.iadd, 1) := by decide +kernel
theorem dX1_digesting_51 : decode cX1_digesting 51 = .ok (.iconst 3, 1) := by decide +kernel
theorem dX1_digesting_52 : decode cX1_digesting 52 = .ok (.isub, 1) := by decide +kernel
theorem dX1_digesting_53 : decode cX1_digesting 53 = .ok (.iconst 0, 1) := by decide +kernel
theorem dX1_digesting_54 : decode cX1_digesting 54 = .ok (.invokestatic 54, 3) := by decide +kernel
theorem dX1_digesting_57 : decode cX1_digesting 57 = .ok (.ireturn, 1) := by decide +kernel
theorem dX1_digesting_58 : decode cX1_digesting 58 = .ok (.iconst 1, 1) := by decide +kernel
theorem dX1_digesting_59 : decode cX1_digesting 59 = .ok (.ireturn, 1) := by decide +kernel
theorem dX1_digesting_60 : decode cX1_digesting 60 = .ok (.bipush 8, 2) := by decide +kernel
theorem dX1_digesting_62 : decode cX1_digesting 62 = .ok (.ireturn, 1) := by decide +kernel
theorem dX1_digesting_63 : decode cX1_digesting 63 = .ok (.bipush 16, 2) := by decide +kernel
theorem dX1_digesting_65 : decode cX1_digesting 65 = .ok (.ireturn, 1) := by decide +kernel
theorem dX1_digesting_66 : decode cX1_digesting 66 = .ok (.iload_n 2, 1) := by decide +kernel
theorem dX1_digesting_67 : decode cX1_digesting 67 = .ok (.bipush 7, 2) := by decide +kernel
theorem dX1_digesting_69 : decode cX1_digesting 69 = .ok (.irem, 1) := by decide +kernel
theorem dX1_digesting_70 : decode cX1_digesting 70 = .ok (.bipush 6, 2) := by decide +kernel
theorem dX1_digesting_72 : decode cX1_digesting 72 = .ok (.if_icmp .ne 7, 3) := by decide +kernel
theorem dX1_digesting_75 : decode cX1_digesting 75 = .ok (.iconst 0, 1) := by decide +kernel
theorem dX1_digesting_76 : decode cX1_digesting 76 = .ok (.goto 4, 3) := by decide +kernel
theorem dX1_digesting_79 : decode cX1_digesting 79 = .ok (.iconst 5, 1) := by decide +kernel
theorem dX1_digesting_80 : decode cX1_digesting 80 = .ok (.ireturn, 1) := by decide +kernel
theorem dX1_digesting_81 : decode cX1_digesting 81 = .ok (.iconst 5, 1) := by decide +kernel
theorem dX1_digesting_82 : decode cX1_digesting 82 = .ok (.ireturn, 1) := by decide +kernel
theorem dX1_keepsSilent_0 : decode cX1_keepsSilent 0 = .ok (.aload_n 0, 1) := by decide +kernel
theorem dX1_keepsSilent_1 : decode cX1_keepsSilent 1 = .ok (.getfield 19, 3) := by decide +kernel
theorem dX1_keepsSilent_4 : decode cX1_keepsSilent 4 = .ok (.iconst 4, 1) := by decide +kernel
theorem dX1_keepsSilent_5 : decode cX1_keepsSilent 5 = .ok (.if_icmp .eq 22, 3) := by decide +kernel
theorem dX1_keepsSilent_8 : decode cX1_keepsSilent 8 = .ok (.aload_n 0, 1) := by decide +kernel
theorem dX1_keepsSilent_9 : decode cX1_keepsSilent 9 = .ok (.getfield 19, 3) := by decide +kernel
theorem dX1_keepsSilent_12 : decode cX1_keepsSilent 12 = .ok (.iconst 5, 1) := by decide +kernel
theorem dX1_keepsSilent_13 : decode cX1_keepsSilent 13 = .ok (.if_icmp .ne 18, 3) := by decide +kernel
theorem dX1_keepsSilent_16 : decode cX1_keepsSilent 16 = .ok (.aload_n 0, 1) := by decide +kernel
theorem dX1_keepsSilent_17 : decode cX1_keepsSilent 17 = .ok (.getfield 29, 3) := by decide +kernel
theorem dX1_keepsSilent_20 : decode cX1_keepsSilent 20 = .ok (.invokestatic 42, 3) := by decide +kernel
theorem dX1_keepsSilent_23 : decode cX1_keepsSilent 23 = .ok (.iconst 4, 1) := by decide +kernel
theorem dX1_keepsSilent_24 : decode cX1_keepsSilent 24 = .ok (.if_icmp .ge 7, 3) := by decide +kernel
theorem dX1_keepsSilent_27 : decode cX1_keepsSilent 27 = .ok (.iconst 1, 1) := by decide +kernel
theorem dX1_keepsSilent_28 : decode cX1_keepsSilent 28 = .ok (.goto 4, 3) := by decide +kernel
theorem dX1_keepsSilent_31 : decode cX1_keepsSilent 31 = .ok (.iconst 0, 1) := by decide +kernel
theorem dX1_keepsSilent_32 : decode cX1_keepsSilent 32 = .ok (.ireturn, 1) := by decide +kernel
theorem dX1_eat_0 : decode cX1_eat 0 = .ok (.aload_n 0, 1) := by decide +kernel
theorem dX1_eat_1 : decode cX1_eat 1 = .ok (.aload_n 0, 1) := by decide +kernel
theorem dX1_eat_2 : decode cX1_eat 2 = .ok (.getfield 23, 3) := by decide +kernel
theorem dX1_eat_5 : decode cX1_eat 5 = .ok (.aload_n 0, 1) := by decide +kernel
theorem dX1_eat_6 : decode cX1_eat 6 = .ok (.iload_n 1, 1) := by decide +kernel
theorem dX1_eat_7 : decode cX1_eat 7 = .ok (.iload_n 2, 1) := by decide +kernel
theorem dX1_eat_8 : decode cX1_eat 8 = .ok (.iload_n 3, 1) := by decide +kernel
theorem dX1_eat_9 : decode cX1_eat 9 = .ok (.invokevirtual 57, 3) := by decide +kernel
theorem dX1_eat_12 : decode cX1_eat 12 = .ok (.iadd, 1) := by decide +kernel
theorem dX1_eat_13 : decode cX1_eat 13 = .ok (.sipush 999, 3) := by decide +kernel
theorem dX1_eat_16 : decode cX1_eat 16 = .ok (.invokestatic 48, 3) := by decide +kernel
theorem dX1_eat_19 : decode cX1_eat 19 = .ok (.putfield 23, 3) := by decide +kernel
theorem dX1_eat_22 : decode cX1_eat 22 = .ok (.aload_n 0, 1) := by decide +kernel
theorem dX1_eat_23 : decode cX1_eat 23 = .ok (.dup, 1) := by decide +kernel
theorem dX1_eat_24 : decode cX1_eat 24 = .ok (.getfield 29, 3) := by decide +kernel
theorem dX1_eat_27 : decode cX1_eat 27 = .ok (.iconst 1, 1) := by decide +kernel
theorem dX1_eat_28 : decode cX1_eat 28 = .ok (.iload_n 1, 1) := by decide +kernel
theorem dX1_eat_29 : decode cX1_eat 29 = .ok (.ishl, 1) := by decide +kernel
theorem dX1_eat_30 : decode cX1_eat 30 = .ok (.ior, 1) := by decide +kernel
theorem dX1_eat_31 : decode cX1_eat 31 = .ok (.putfield 29, 3) := by decide +kernel
theorem dX1_eat_34 : decode cX1_eat 34 = .ok (.aload_n 0, 1) := by decide +kernel
theorem dX1_eat_35 : decode cX1_eat 35 = .ok (.aload_n 0, 1) := by decide +kernel
theorem dX1_eat_36 : decode cX1_eat 36 = .ok (.getfield 32, 3) := by decide +kernel
theorem dX1_eat_39 : decode cX1_eat 39 = .ok (.iconst 1, 1) := by decide +kernel
theorem dX1_eat_40 : decode cX1_eat 40 = .ok (.iadd, 1) := by decide +kernel
theorem dX1_eat_41 : decode cX1_eat 41 = .ok (.sipush 9999, 3) := by decide +kernel
theorem dX1_eat_44 : decode cX1_eat 44 = .ok (.invokestatic 48, 3) := by decide +kernel
theorem dX1_eat_47 : decode cX1_eat 47 = .ok (.putfield 32, 3) := by decide +kernel
theorem dX1_eat_50 : decode cX1_eat 50 = .ok (.return_, 1) := by decide +kernel
theorem dX1_fallIll_0 : decode cX1_fallIll 0 = .ok (.aload_n 0, 1) := by decide +kernel
theorem dX1_fallIll_1 : decode cX1_fallIll 1 = .ok (.iconst 0, 1) := by decide +kernel
theorem dX1_fallIll_2 : decode cX1_fallIll 2 = .ok (.putfield 29, 3) := by decide +kernel
theorem dX1_fallIll_5 : decode cX1_fallIll 5 = .ok (.aload_n 0, 1) := by decide +kernel
theorem dX1_fallIll_6 : decode cX1_fallIll 6 = .ok (.iconst 0, 1) := by decide +kernel
theorem dX1_fallIll_7 : decode cX1_fallIll 7 = .ok (.putfield 23, 3) := by decide +kernel
theorem dX1_fallIll_10 : decode cX1_fallIll 10 = .ok (.aload_n 0, 1) := by decide +kernel
theorem dX1_fallIll_11 : decode cX1_fallIll 11 = .ok (.aload_n 0, 1) := by decide +kernel
theorem dX1_fallIll_12 : decode cX1_fallIll 12 = .ok (.getfield 35, 3) := by decide +kernel
theorem dX1_fallIll_15 : decode cX1_fallIll 15 = .ok (.iconst 1, 1) := by decide +kernel
theorem dX1_fallIll_16 : decode cX1_fallIll 16 = .ok (.iadd, 1) := by decide +kernel
theorem dX1_fallIll_17 : decode cX1_fallIll 17 = .ok (.sipush 9999, 3) := by decide +kernel
theorem dX1_fallIll_20 : decode cX1_fallIll 20 = .ok (.invokestatic 48, 3) := by decide +kernel
theorem dX1_fallIll_23 : decode cX1_fallIll 23 = .ok (.putfield 35, 3) := by decide +kernel
theorem dX1_fallIll_26 : decode cX1_fallIll 26 = .ok (.return_, 1) := by decide +kernel
theorem dX2_init_0 : decode cX2_init 0 = .ok (.aload_n 0, 1) := by decide +kernel
theorem dX2_init_1 : decode cX2_init 1 = .ok (.invokespecial 3, 3) := by decide +kernel
theorem dX2_init_4 : decode cX2_init 4 = .ok (.aload_n 0, 1) := by decide +kernel
theorem dX2_init_5 : decode cX2_init 5 = .ok (.new 9, 3) := by decide +kernel
theorem dX2_init_8 : decode cX2_init 8 = .ok (.dup, 1) := by decide +kernel
theorem dX2_init_9 : decode cX2_init 9 = .ok (.invokespecial 11, 3) := by decide +kernel
theorem dX2_init_12 : decode cX2_init 12 = .ok (.putfield 12, 3) := by decide +kernel
theorem dX2_init_15 : decode cX2_init 15 = .ok (.aload_n 0, 1) := by decide +kernel
theorem dX2_init_16 : decode cX2_init 16 = .ok (.iconst 0, 1) := by decide +kernel
theorem dX2_init_17 : decode cX2_init 17 = .ok (.putfield 18, 3) := by decide +kernel
theorem dX2_init_20 : decode cX2_init 20 = .ok (.aload_n 0, 1) := by decide +kernel
theorem dX2_init_21 : decode cX2_init 21 = .ok (.iconst 0, 1) := by decide +kernel
theorem dX2_init_22 : decode cX2_init 22 = .ok (.putfield 22, 3) := by decide +kernel
theorem dX2_init_25 : decode cX2_init 25 = .ok (.aload_n 0, 1) := by decide +kernel
theorem dX2_init_26 : decode cX2_init 26 = .ok (.iconst 0, 1) := by decide +kernel
theorem dX2_init_27 : decode cX2_init 27 = .ok (.putfield 25, 3) := by decide +kernel
theorem dX2_init_30 : decode cX2_init 30 = .ok (.aload_n 0, 1) := by decide +kernel
theorem dX2_init_31 : decode cX2_init 31 = .ok (.iconst 0, 1) := by decide +kernel
theorem dX2_init_32 : decode cX2_init 32 = .ok (.putfield 28, 3) := by decide +kernel
theorem dX2_init_35 : decode cX2_init 35 = .ok (.aload_n 0, 1) := by decide +kernel
theorem dX2_init_36 : decode cX2_init 36 = .ok (.iconst 0, 1) := by decide +kernel
theorem dX2_init_37 : decode cX2_init 37 = .ok (.putfield 31, 3) := by decide +kernel
theorem dX2_init_40 : decode cX2_init 40 = .ok (.return_, 1) := by decide +kernel
theorem dX2_readInto_0 : decode cX2_readInto 0 = .ok (.aload_n 0, 1) := by decide +kernel
theorem dX2_readInto_1 : decode cX2_readInto 1 = .ok (.iconst 0, 1) := by decide +kernel
theorem dX2_readInto_2 : decode cX2_readInto 2 = .ok (.putfield 25, 3) := by decide +kernel
theorem dX2_readInto_5 : decode cX2_readInto 5 = .ok (.aload_n 0, 1) := by decide +kernel
theorem dX2_readInto_6 : decode cX2_readInto 6 = .ok (.invokevirtual 34, 3) := by decide +kernel
theorem dX2_readInto_9 : decode cX2_readInto 9 = .ok (.iconst 1, 1) := by decide +kernel
theorem dX2_readInto_10 : decode cX2_readInto 10 = .ok (.istore_n 2, 1) := by decide +kernel
theorem dX2_readInto_11 : decode cX2_readInto 11 = .ok (.iload_n 2, 1) := by decide +kernel
theorem dX2_readInto_12 : decode cX2_readInto 12 = .ok (.bipush 120, 2) := by decide +kernel
theorem dX2_readInto_14 : decode cX2_readInto 14 = .ok (.if_icmp .gt 52, 3) := by decide +kernel
theorem dX2_readInto_17 : decode cX2_readInto 17 = .ok (.aload_n 0, 1) := by decide +kernel
theorem dX2_readInto_18 : decode cX2_readInto 18 = .ok (.aload_n 1, 1) := by decide +kernel
theorem dX2_readInto_19 : decode cX2_readInto 19 = .ok (.invokevirtual 37, 3) := by decide +kernel
theorem dX2_readInto_22 : decode cX2_readInto 22 = .ok (.ifCond .ne 10, 3) := by decide +kernel
theorem dX2_readInto_25 : decode cX2_readInto 25 = .ok (.iconst (-1), 1) := by decide +kernel
theorem dX2_readInto_26 : decode cX2_readInto 26 = .ok (.aload_n 0, 1) := by decide +kernel
theorem dX2_readInto_27 : decode cX2_readInto 27 = .ok (.getfield 22, 3) := by decide +kernel
theorem dX2_readInto_30 : decode cX2_readInto 30 = .ok (.isub, 1) := by decide +kernel
theorem dX2_readInto_31 : decode cX2_readInto 31 = .ok (.ireturn, 1) := by decide +kernel
theorem dX2_readInto_32 : decode cX2_readInto 32 = .ok (.aload_n 0, 1) := by decide +kernel
theorem dX2_readInto_33 : decode cX2_readInto 33 = .ok (.getfield 18, 3) := by decide +kernel
theorem dX2_readInto_36 : decode cX2_readInto 36 = .ok (.ifCond .ne 5, 3) := by decide +kernel
theorem dX2_readInto_39 : decode cX2_readInto 39 = .ok (.iload_n 2, 1) := by decide +kernel
theorem dX2_readInto_40 : decode cX2_readInto 40 = .ok (.ireturn, 1) := by decide +kernel
theorem dX2_readInto_41 : decode cX2_readInto 41 = .ok (.aload_n 0, 1) := by decide +kernel
theorem dX2_readInto_42 : decode cX2_readInto 42 = .ok (.getfield 18, 3) := by decide +kernel
theorem dX2_readInto_45 : decode cX2_readInto 45 = .ok (.iconst 3, 1) := by decide +kernel
theorem dX2_readInto_46 : decode cX2_readInto 46 = .ok (.if_icmp .eq 10, 3) := by decide +kernel
theorem dX2_readInto_49 : decode cX2_readInto 49 = .ok (.iconst (-1), 1) := by decide +kernel
theorem dX2_readInto_50 : decode cX2_readInto 50 = .ok (.aload_n 0, 1) := by decide +kernel
theorem dX2_readInto_51 : decode cX2_readInto 51 = .ok (.getfield 22, 3) := by decide +kernel
theorem dX2_readInto_54 : decode cX2_readInto 54 = .ok (.isub, 1) := by decide +kernel
theorem dX2_readInto_55 : decode cX2_readInto 55 = .ok (.ireturn, 1) := by decide +kernel
theorem dX2_readInto_56 : decode cX2_readInto 56 = .ok (.aload_n 0, 1) := by decide +kernel
theorem dX2_readInto_57 : decode cX2_readInto 57 = .ok (.invokevirtual 34, 3) := by decide +kernel
theorem dX2_readInto_60 : decode cX2_readInto 60 = .ok (.iinc 2 1, 3) := by decide +kernel
theorem dX2_readInto_63 : decode cX2_readInto 63 = .ok (.goto (-52), 3) := by decide +kernel
theorem dX2_readInto_66 : decode cX2_readInto 66 = .ok (.iconst (-1), 1) := by decide +kernel
theorem dX2_readInto_67 : decode cX2_readInto 67 = .ok (.aload_n 0, 1) := by decide +kernel
theorem dX2_readInto_68 : decode cX2_readInto 68 = .ok (.getfield 22, 3) := by decide +kernel
theorem dX2_readInto_71 : decode cX2_readInto 71 = .ok (.isub, 1) := by decide +kernel
theorem dX2_readInto_72 : decode cX2_readInto 72 = .ok (.ireturn, 1) := by decide +kernel
theorem dX2_readItem_0 : decode cX2_readItem 0 = .ok (.aload_n 0, 1) := by decide +kernel
theorem dX2_readItem_1 : decode cX2_readItem 1 = .ok (.ldc 41, 2) := by decide +kernel
theorem dX2_readItem_3 : decode cX2_readItem 3 = .ok (.invokevirtual 43, 3) := by decide +kernel
theorem dX2_readItem_6 : decode cX2_readItem 6 = .ok (.ifCond .eq 9, 3) := by decide +kernel
theorem dX2_readItem_9 : decode cX2_readItem 9 = .ok (.aload_n 0, 1) := by decide +kernel
theorem dX2_readItem_10 : decode cX2_readItem 10 = .ok (.aload_n 1, 1) := by decide +kernel
theorem dX2_readItem_11 : decode cX2_readItem 11 = .ok (.invokevirtual 47, 3) := by decide +kernel
theorem dX2_readItem_14 : decode cX2_readItem 14 = .ok (.ireturn, 1) := by decide +kernel
theorem dX2_readItem_15 : decode cX2_readItem 15 = .ok (.aload_n 0, 1) := by decide +kernel
theorem dX2_readItem_16 : decode cX2_readItem 16 = .ok (.ldc 50, 2) := by decide +kernel
theorem dX2_readItem_18 : decode cX2_readItem 18 = .ok (.invokevirtual 43, 3) := by decide +kernel
theorem dX2_readItem_21 : decode cX2_readItem 21 = .ok (.ifCond .eq 9, 3) := by decide +kernel
theorem dX2_readItem_24 : decode cX2_readItem 24 = .ok (.aload_n 0, 1) := by decide +kernel
theorem dX2_readItem_25 : decode cX2_readItem 25 = .ok (.aload_n 1, 1) := by decide +kernel
theorem dX2_readItem_26 : decode cX2_readItem 26 = .ok (.invokevirtual 52, 3) := by decide +kernel
theorem dX2_readItem_29 : decode cX2_readItem 29 = .ok (.ireturn, 1) := by decide +kernel
theorem dX2_readItem_30 : decode cX2_readItem 30 = .ok (.aload_n 0, 1) := by decide +kernel
theorem dX2_readItem_31 : decode cX2_readItem 31 = .ok (.ldc 55, 2) := by decide +kernel
theorem dX2_readItem_33 : decode cX2_readItem 33 = .ok (.invokevirtual 43, 3) := by decide +kernel
theorem dX2_readItem_36 : decode cX2_readItem 36 = .ok (.ifCond .eq 11, 3) := by decide +kernel
theorem dX2_readItem_39 : decode cX2_readItem 39 = .ok (.aload_n 0, 1) := by decide +kernel
theorem dX2_readItem_40 : decode cX2_readItem 40 = .ok (.aload_n 1, 1) := by decide +kernel
theorem dX2_readItem_41 : decode cX2_readItem 41 = .ok (.invokevirtual 57, 3) := by decide +kernel
theorem dX2_readItem_44 : decode cX2_readItem 44 = .ok (.goto 8, 3) := by decide +kernel
theorem dX2_readItem_47 : decode cX2_readItem 47 = .ok (.aload_n 0, 1) := by decide +kernel
theorem dX2_readItem_48 : decode cX2_readItem 48 = .ok (.aload_n 1, 1) := by decide +kernel
theorem dX2_readItem_49 : decode cX2_readItem 49 = .ok (.invokevirtual 60, 3) := by decide +kernel
theorem dX2_readItem_52 : decode cX2_readItem 52 = .ok (.ireturn, 1) := by decide +kernel
theorem dX2_readWater_0 : decode cX2_readWater 0 = .ok (.aload_n 0, 1) := by decide +kernel
theorem dX2_readWater_1 : decode cX2_readWater 1 = .ok (.invokevirtual 34, 3) := by decide +kernel
theorem dX2_readWater_4 : decode cX2_readWater 4 = .ok (.aload_n 0, 1) := by decide +kernel
theorem dX2_readWater_5 : decode cX2_readWater 5 = .ok (.bipush 9, 2) := by decide +kernel
theorem dX2_readWater_7 : decode cX2_readWater 7 = .ok (.invokevirtual 63, 3) := by decide +kernel
theorem dX2_readWater_10 : decode cX2_readWater 10 = .ok (.ifCond .ne 5, 3) := by decide +kernel
theorem dX2_readWater_13 : decode cX2_readWater 13 = .ok (.iconst 0, 1) := by decide +kernel
theorem dX2_readWater_14 : decode cX2_readWater 14 = .ok (.ireturn, 1) := by decide +kernel
theorem dX2_readWater_15 : decode cX2_readWater 15 = .ok (.aload_n 1, 1) := by decide +kernel
theorem dX2_readWater_16 : decode cX2_readWater 16 = .ok (.aload_n 0, 1) := by decide +kernel
theorem dX2_readWater_17 : decode cX2_readWater 17 = .ok (.getfield 31, 3) := by decide +kernel
theorem dX2_readWater_20 : decode cX2_readWater 20 = .ok (.putfield 67, 3) := by decide +kernel
theorem dX2_readWater_23 : decode cX2_readWater 23 = .ok (.iconst 1, 1) := by decide +kernel
theorem dX2_readWater_24 : decode cX2_readWater 24 = .ok (.ireturn, 1) := by decide +kernel
theorem dX2_readOut_0 : decode cX2_readOut 0 = .ok (.aload_n 0, 1) := by decide +kernel
theorem dX2_readOut_1 : decode cX2_readOut 1 = .ok (.invokevirtual 34, 3) := by decide +kernel
theorem dX2_readOut_4 : decode cX2_readOut 4 = .ok (.aload_n 0, 1) := by decide +kernel
theorem dX2_readOut_5 : decode cX2_readOut 5 = .ok (.sipush 255, 3) := by decide +kernel
theorem dX2_readOut_8 : decode cX2_readOut 8 = .ok (.invokevirtual 63, 3) := by decide +kernel
theorem dX2_readOut_11 : decode cX2_readOut 11 = .ok (.ifCond .ne 5, 3) := by decide +kernel
theorem dX2_readOut_14 : decode cX2_readOut 14 = .ok (.iconst 0, 1) := by decide +kernel
theorem dX2_readOut_15 : decode cX2_readOut 15 = .ok (.ireturn, 1) := by decide +kernel
theorem dX2_readOut_16 : decode cX2_readOut 16 = .ok (.aload_n 1, 1) := by decide +kernel
theorem dX2_readOut_17 : decode cX2_readOut 17 = .ok (.aload_n 0, 1) := by decide +kernel
theorem dX2_readOut_18 : decode cX2_readOut 18 = .ok (.getfield 31, 3) := by decide +kernel
theorem dX2_readOut_21 : decode cX2_readOut 21 = .ok (.putfield 71, 3) := by decide +kernel
theorem dX2_readOut_24 : decode cX2_readOut 24 = .ok (.iconst 1, 1) := by decide +kernel
theorem dX2_readOut_25 : decode cX2_readOut 25 = .ok (.ireturn, 1) := by decide +kernel
theorem dX2_readTold_0 : decode cX2_readTold 0 = .ok (.aload_n 0, 1) := by decide +kernel
theorem dX2_readTold_1 : decode cX2_readTold 1 = .ok (.invokevirtual 34, 3) := by decide +kernel
theorem dX2_readTold_4 : decode cX2_readTold 4 = .ok (.aload_n 0, 1) := by decide +kernel
theorem dX2_readTold_5 : decode cX2_readTold 5 = .ok (.iconst 5, 1) := by decide +kernel
theorem dX2_readTold_6 : decode cX2_readTold 6 = .ok (.invokevirtual 63, 3) := by decide +kernel
theorem dX2_readTold_9 : decode cX2_readTold 9 = .ok (.ifCond .ne 5, 3) := by decide +kernel
theorem dX2_readTold_12 : decode cX2_readTold 12 = .ok (.iconst 0, 1) := by decide +kernel
theorem dX2_readTold_13 : decode cX2_readTold 13 = .ok (.ireturn, 1) := by decide +kernel
theorem dX2_readTold_14 : decode cX2_readTold 14 = .ok (.aload_n 0, 1) := by decide +kernel
theorem dX2_readTold_15 : decode cX2_readTold 15 = .ok (.getfield 31, 3) := by decide +kernel
theorem dX2_readTold_18 : decode cX2_readTold 18 = .ok (.istore_n 2, 1) := by decide +kernel
theorem dX2_readTold_19 : decode cX2_readTold 19 = .ok (.aload_n 0, 1) := by decide +kernel
theorem dX2_readTold_20 : decode cX2_readTold 20 = .ok (.bipush 7, 2) := by decide +kernel
theorem dX2_readTold_22 : decode cX2_readTold 22 = .ok (.invokevirtual 63, 3) := by decide +kernel
theorem dX2_readTold_25 : decode cX2_readTold 25 = .ok (.ifCond .ne 5, 3) := by decide +kernel
theorem dX2_readTold_28 : decode cX2_readTold 28 = .ok (.iconst 0, 1) := by decide +kernel
theorem dX2_readTold_29 : decode cX2_readTold 29 = .ok (.ireturn, 1) := by decide +kernel
theorem dX2_readTold_30 : decode cX2_readTold 30 = .ok (.aload_n 0, 1) := by decide +kernel
theorem dX2_readTold_31 : decode cX2_readTold 31 = .ok (.getfield 31, 3) := by decide +kernel
theorem dX2_readTold_34 : decode cX2_readTold 34 = .ok (.istore_n 3, 1) := by decide +kernel
theorem dX2_readTold_35 : decode cX2_readTold 35 = .ok (.aload_n 0, 1) := by decide +kernel
theorem dX2_readTold_36 : decode cX2_readTold 36 = .ok (.bipush 40, 2) := by decide +kernel
theorem dX2_readTold_38 : decode cX2_readTold 38 = .ok (.invokevirtual 63, 3) := by decide +kernel
theorem dX2_readTold_41 : decode cX2_readTold 41 = .ok (.ifCond .eq 11, 3) := by decide +kernel
theorem dX2_readTold_44 : decode cX2_readTold 44 = .ok (.iload_n 2, 1) := by decide +kernel
theorem dX2_readTold_45 : decode cX2_readTold 45 = .ok (.iconst 5, 1) := by decide +kernel
theorem dX2_readTold_46 : decode cX2_readTold 46 = .ok (.invokestatic 73, 3) := by decide +kernel
theorem dX2_readTold_49 : decode cX2_readTold 49 = .ok (.ifCond .ne 5, 3) := by decide +kernel
theorem dX2_readTold_52 : decode cX2_readTold 52 = .ok (.iconst 0, 1) := by decide +kernel
theorem dX2_readTold_53 : decode cX2_readTold 53 = .ok (.ireturn, 1) := by decide +kernel
theorem dX2_readTold_54 : decode cX2_readTold 54 = .ok (.aload_n 1, 1) := by decide +kernel
theorem dX2_readTold_55 : decode cX2_readTold 55 = .ok (.getfield 77, 3) := by decide +kernel
theorem dX2_readTold_58 : decode cX2_readTold 58 = .ok (.iload_n 2, 1) := by decide +kernel
theorem dX2_readTold_59 : decode cX2_readTold 59 = .ok (.iload_n 3, 1) := by decide +kernel
theorem dX2_readTold_60 : decode cX2_readTold 60 = .ok (.aload_n 0, 1) := by decide +kernel
theorem dX2_readTold_61 : decode cX2_readTold 61 = .ok (.getfield 31, 3) := by decide +kernel
theorem dX2_readTold_64 : decode cX2_readTold 64 = .ok (.invokestatic 81, 3) := by decide +kernel
theorem dX2_readTold_67 : decode cX2_readTold 67 = .ok (.iastore, 1) := by decide +kernel
theorem dX2_readTold_68 : decode cX2_readTold 68 = .ok (.iconst 1, 1) := by decide +kernel
theorem dX2_readTold_69 : decode cX2_readTold 69 = .ok (.ireturn, 1) := by decide +kernel
theorem dX2_readPriest_0 : decode cX2_readPriest 0 = .ok (.aload_n 0, 1) := by decide +kernel
theorem dX2_readPriest_1 : decode cX2_readPriest 1 = .ok (.invokevirtual 85, 3) := by decide +kernel
theorem dX2_readPriest_4 : decode cX2_readPriest 4 = .ok (.istore_n 2, 1) := by decide +kernel
theorem dX2_readPriest_5 : decode cX2_readPriest 5 = .ok (.iload_n 2, 1) := by decide +kernel
theorem dX2_readPriest_6 : decode cX2_readPriest 6 = .ok (.ifCond .ge 7, 3) := by decide +kernel
theorem dX2_readPriest_9 : decode cX2_readPriest 9 = .ok (.aconst_null, 1) := by decide +kernel
theorem dX2_readPriest_10 : decode cX2_readPriest 10 = .ok (.goto 15, 3) := by decide +kernel
theorem dX2_readPriest_13 : decode cX2_readPriest 13 = .ok (.aload_n 1, 1) := by decide +kernel
theorem dX2_readPriest_14 : decode cX2_readPriest 14 = .ok (.aload_n 1, 1) := by decide +kernel
theorem dX2_readPriest_15 : decode cX2_readPriest 15 = .ok (.iload_n 2, 1) := by decide +kernel
theorem dX2_readPriest_16 : decode cX2_readPriest 16 = .ok (.sipush 255, 3) := by decide +kernel
theorem dX2_readPriest_19 : decode cX2_readPriest 19 = .ok (.invokevirtual 89, 3) := by decide +kernel
theorem dX2_readPriest_22 : decode cX2_readPriest 22 = .ok (.invokevirtual 92, 3) := by decide +kernel
theorem dX2_readPriest_25 : decode cX2_readPriest 25 = .ok (.astore_n 3, 1) := by decide +kernel
theorem dX2_readPriest_26 : decode cX2_readPriest 26 = .ok (.aload_n 3, 1) := by decide +kernel
theorem dX2_readPriest_27 : decode cX2_readPriest 27 = .ok (.ifnonnull 5, 3) := by decide +kernel
theorem dX2_readPriest_30 : decode cX2_readPriest 30 = .ok (.iconst 0, 1) := by decide +kernel
theorem dX2_readPriest_31 : decode cX2_readPriest 31 = .ok (.ireturn, 1) := by decide +kernel
theorem dX2_readPriest_32 : decode cX2_readPriest 32 = .ok (.aload_n 0, 1) := by decide +kernel
theorem dX2_readPriest_33 : decode cX2_readPriest 33 = .ok (.invokevirtual 34, 3) := by decide +kernel
theorem dX2_readPriest_36 : decode cX2_readPriest 36 = .ok (.aload_n 0, 1) := by decide +kernel
theorem dX2_readPriest_37 : decode cX2_readPriest 37 = .ok (.ldc 96, 2) := by decide +kernel
theorem dX2_readPriest_39 : decode cX2_readPriest 39 = .ok (.aload_n 3, 1) := by decide +kernel
theorem dX2_readPriest_40 : decode cX2_readPriest 40 = .ok (.iconst 2, 1) := by decide +kernel
theorem dX2_readPriest_41 : decode cX2_readPriest 41 = .ok (.invokevirtual 100, 3) := by decide +kernel
theorem dX2_readPriest_44 : decode cX2_readPriest 44 = .ok (.ifCond .eq 29, 3) := by decide +kernel
theorem dX2_readPriest_47 : decode cX2_readPriest 47 = .ok (.aload_n 0, 1) := by decide +kernel
theorem dX2_readPriest_48 : decode cX2_readPriest 48 = .ok (.ldc 104, 2) := by decide +kernel
theorem dX2_readPriest_50 : decode cX2_readPriest 50 = .ok (.aload_n 3, 1) := by decide +kernel
theorem dX2_readPriest_51 : decode cX2_readPriest 51 = .ok (.iconst 3, 1) := by decide +kernel
theorem dX2_readPriest_52 : decode cX2_readPriest 52 = .ok (.invokevirtual 100, 3) := by decide +kernel
theorem dX2_readPriest_55 : decode cX2_readPriest 55 = .ok (.ifCond .eq 18, 3) := by decide +kernel
theorem dX2_readPriest_58 : decode cX2_readPriest 58 = .ok (.aload_n 0, 1) := by decide +kernel
theorem dX2_readPriest_59 : decode cX2_readPriest 59 = .ok (.ldc 106, 2) := by decide +kernel
theorem dX2_readPriest_61 : decode cX2_readPriest 61 = .ok (.aload_n 3, 1) := by decide +kernel
theorem dX2_readPriest_62 : decode cX2_readPriest 62 = .ok (.iconst 1, 1) := by decide +kernel
theorem dX2_readPriest_63 : decode cX2_readPriest 63 = .ok (.invokevirtual 100, 3) := by decide +kernel
theorem dX2_readPriest_66 : decode cX2_readPriest 66 = .ok (.ifCond .eq 7, 3) := by decide +kernel
theorem dX2_readPriest_69 : decode cX2_readPriest 69 = .ok (.iconst 1, 1) := by decide +kernel
theorem dX2_readPriest_70 : decode cX2_readPriest 70 = .ok (.goto 4, 3) := by decide +kernel
theorem dX2_readPriest_73 : decode cX2_readPriest 73 = .ok (.iconst 0, 1) := by decide +kernel
theorem dX2_readPriest_74 : decode cX2_readPriest 74 = .ok (.ireturn, 1) := by decide +kernel
theorem dX2_readPerhaps_0 : decode cX2_readPerhaps 0 = .ok (.aload_n 0, 1) := by decide +kernel
theorem dX2_readPerhaps_1 : decode cX2_readPerhaps 1 = .ok (.aload_n 1, 1) := by decide +kernel
theorem dX2_readPerhaps_2 : decode cX2_readPerhaps 2 = .ok (.invokevirtual 43, 3) := by decide +kernel
theorem dX2_readPerhaps_5 : decode cX2_readPerhaps 5 = .ok (.ifCond .ne 5, 3) := by decide +kernel
theorem dX2_readPerhaps_8 : decode cX2_readPerhaps 8 = .ok (.iconst 1, 1) := by decide +kernel
theorem dX2_readPerhaps_9 : decode cX2_readPerhaps 9 = .ok (.ireturn, 1) := by decide +kernel
theorem dX2_readPerhaps_10 : decode cX2_readPerhaps 10 = .ok (.aload_n 0, 1) := by decide +kernel
theorem dX2_readPerhaps_11 : decode cX2_readPerhaps 11 = .ok (.invokevirtual 34, 3) := by decide +kernel
theorem dX2_readPerhaps_14 : decode cX2_readPerhaps 14 = .ok (.aload_n 0, 1) := by decide +kernel
theorem dX2_readPerhaps_15 : decode cX2_readPerhaps 15 = .ok (.iload_n 3, 1) := by decide +kernel
theorem dX2_readPerhaps_16 : decode cX2_readPerhaps 16 = .ok (.iconst 1, 1) := by decide +kernel
theorem dX2_readPerhaps_17 : decode cX2_readPerhaps 17 = .ok (.if_icmp .ne 9, 3) := by decide +kernel
theorem dX2_readPerhaps_20 : decode cX2_readPerhaps 20 = .ok (.sipush 999, 3) := by decide +kernel
theorem dX2_readPerhaps_23 : decode cX2_readPerhaps 23 = .ok (.goto 6, 3) := by decide +kernel
theorem dX2_readPerhaps_26 : decode cX2_readPerhaps 26 = .ok (.sipush 255, 3) := by decide +kernel
theorem dX2_readPerhaps_29 : decode cX2_readPerhaps 29 = .ok (.invokevirtual 63, 3) := by decide +kernel
theorem dX2_readPerhaps_32 : decode cX2_readPerhaps 32 = .ok (.ifCond .ne 5, 3) := by decide +kernel
theorem dX2_readPerhaps_35 : decode cX2_readPerhaps 35 = .ok (.iconst 0, 1) := by decide +kernel
theorem dX2_readPerhaps_36 : decode cX2_readPerhaps 36 = .ok (.ireturn, 1) := by decide +kernel
theorem dX2_readPerhaps_37 : decode cX2_readPerhaps 37 = .ok (.aload_n 2, 1) := by decide +kernel
theorem dX2_readPerhaps_38 : decode cX2_readPerhaps 38 = .ok (.iload_n 3, 1) := by decide +kernel
theorem dX2_readPerhaps_39 : decode cX2_readPerhaps 39 = .ok (.aload_n 0, 1) := by decide +kernel
theorem dX2_readPerhaps_40 : decode cX2_readPerhaps 40 = .ok (.getfield 31, 3) := by decide +kernel
theorem dX2_readPerhaps_43 : decode cX2_readPerhaps 43 = .ok (.invokevirtual 108, 3) := by decide +kernel
theorem dX2_readPerhaps_46 : decode cX2_readPerhaps 46 = .ok (.iconst 1, 1) := by decide +kernel
theorem dX2_readPerhaps_47 : decode cX2_readPerhaps 47 = .ok (.ireturn, 1) := by decide +kernel
theorem dX2_kindAtHand_0 : decode cX2_kindAtHand 0 = .ok (.iconst 0, 1) := by decide +kernel
theorem dX2_kindAtHand_1 : decode cX2_kindAtHand 1 = .ok (.istore_n 1, 1) := by decide +kernel
theorem dX2_kindAtHand_2 : decode cX2_kindAtHand 2 = .ok (.iload_n 1, 1) := by decide +kernel
theorem dX2_kindAtHand_3 : decode cX2_kindAtHand 3 = .ok (.bipush 7, 2) := by decide +kernel
theorem dX2_kindAtHand_5 : decode cX2_kindAtHand 5 = .ok (.if_icmp .ge 22, 3) := by decide +kernel
theorem dX2_kindAtHand_8 : decode cX2_kindAtHand 8 = .ok (.aload_n 0, 1) := by decide +kernel
theorem dX2_kindAtHand_9 : decode cX2_kindAtHand 9 = .ok (.iload_n 1, 1) := by decide +kernel
theorem dX2_kindAtHand_10 : decode cX2_kindAtHand 10 = .ok (.invokestatic 112, 3) := by decide +kernel
theorem dX2_kindAtHand_13 : decode cX2_kindAtHand 13 = .ok (.invokevirtual 43, 3) := by decide +kernel
theorem dX2_kindAtHand_16 : decode cX2_kindAtHand 16 = .ok (.ifCond .eq 5, 3) := by decide +kernel
theorem dX2_kindAtHand_19 : decode cX2_kindAtHand 19 = .ok (.iload_n 1, 1) := by decide +kernel
theorem dX2_kindAtHand_20 : decode cX2_kindAtHand 20 = .ok (.ireturn, 1) := by decide +kernel
theorem dX2_kindAtHand_21 : decode cX2_kindAtHand 21 = .ok (.iinc 1 1, 3) := by decide +kernel
theorem dX2_kindAtHand_24 : decode cX2_kindAtHand 24 = .ok (.goto (-22), 3) := by decide +kernel
theorem dX2_kindAtHand_27 : decode cX2_kindAtHand 27 = .ok (.iconst (-1), 1) := by decide +kernel
theorem dX2_kindAtHand_28 : decode cX2_kindAtHand 28 = .ok (.ireturn, 1) := by decide +kernel
theorem dX2_wordOf_0 : decode cX2_wordOf 0 = .ok (.iload_n 0, 1) := by decide +kernel
theorem dX2_wordOf_1 : decode cX2_wordOf 1 = .ok (.tableswitch 57 1 6 #[39, 42, 45, 48, 51, 54], 39) := by decide +kernel
theorem dX2_wordOf_40 : decode cX2_wordOf 40 = .ok (.ldc 116, 2) := by decide +kernel
theorem dX2_wordOf_42 : decode cX2_wordOf 42 = .ok (.areturn, 1) := by decide +kernel
theorem dX2_wordOf_43 : decode cX2_wordOf 43 = .ok (.ldc 118, 2) := by decide +kernel
theorem dX2_wordOf_45 : decode cX2_wordOf 45 = .ok (.areturn, 1) := by decide +kernel
theorem dX2_wordOf_46 : decode cX2_wordOf 46 = .ok (.ldc 120, 2) := by decide +kernel
theorem dX2_wordOf_48 : decode cX2_wordOf 48 = .ok (.areturn, 1) := by decide +kernel
theorem dX2_wordOf_49 : decode cX2_wordOf 49 = .ok (.ldc 122, 2) := by decide +kernel
theorem dX2_wordOf_51 : decode cX2_wordOf 51 = .ok (.areturn, 1) := by decide +kernel
theorem dX2_wordOf_52 : decode cX2_wordOf 52 = .ok (.ldc 124, 2) := by decide +kernel
theorem dX2_wordOf_54 : decode cX2_wordOf 54 = .ok (.areturn, 1) := by decide +kernel
theorem dX2_wordOf_55 : decode cX2_wordOf 55 = .ok (.ldc 126, 2) := by decide +kernel
theorem dX2_wordOf_57 : decode cX2_wordOf 57 = .ok (.areturn, 1) := by decide +kernel
theorem dX2_wordOf_58 : decode cX2_wordOf 58 = .ok (.ldc 128, 2) := by decide +kernel
theorem dX2_wordOf_60 : decode cX2_wordOf 60 = .ok (.areturn, 1) := by decide +kernel
theorem dX2_isWord_0 : decode cX2_isWord 0 = .ok (.aload_n 0, 1) := by decide +kernel
theorem dX2_isWord_1 : decode cX2_isWord 1 = .ok (.getfield 18, 3) := by decide +kernel
theorem dX2_isWord_4 : decode cX2_isWord 4 = .ok (.iconst 1, 1) := by decide +kernel
theorem dX2_isWord_5 : decode cX2_isWord 5 = .ok (.if_icmp .ne 19, 3) := by decide +kernel
theorem dX2_isWord_8 : decode cX2_isWord 8 = .ok (.aload_n 1, 1) := by decide +kernel
theorem dX2_isWord_9 : decode cX2_isWord 9 = .ok (.invokevirtual 130, 3) := by decide +kernel
theorem dX2_isWord_12 : decode cX2_isWord 12 = .ok (.aload_n 0, 1) := by decide +kernel
theorem dX2_isWord_13 : decode cX2_isWord 13 = .ok (.getfield 25, 3) := by decide +kernel
theorem dX2_isWord_16 : decode cX2_isWord 16 = .ok (.aload_n 0, 1) := by decide +kernel
theorem dX2_isWord_17 : decode cX2_isWord 17 = .ok (.getfield 22, 3) := by decide +kernel
theorem dX2_isWord_20 : decode cX2_isWord 20 = .ok (.isub, 1) := by decide +kernel
theorem dX2_isWord_21 : decode cX2_isWord 21 = .ok (.if_icmp .eq 5, 3) := by decide +kernel
theorem dX2_isWord_24 : decode cX2_isWord 24 = .ok (.iconst 0, 1) := by decide +kernel
theorem dX2_isWord_25 : decode cX2_isWord 25 = .ok (.ireturn, 1) := by decide +kernel
theorem dX2_isWord_26 : decode cX2_isWord 26 = .ok (.iconst 0, 1) := by decide +kernel
theorem dX2_isWord_27 : decode cX2_isWord 27 = .ok (.istore_n 2, 1) := by decide +kernel
theorem dX2_isWord_28 : decode cX2_isWord 28 = .ok (.iload_n 2, 1) := by decide +kernel
theorem dX2_isWord_29 : decode cX2_isWord 29 = .ok (.aload_n 1, 1) := by decide +kernel
theorem dX2_isWord_30 : decode cX2_isWord 30 = .ok (.invokevirtual 130, 3) := by decide +kernel
theorem dX2_isWord_33 : decode cX2_isWord 33 = .ok (.if_icmp .ge 32, 3) := by decide +kernel
theorem dX2_isWord_36 : decode cX2_isWord 36 = .ok (.aload_n 0, 1) := by decide +kernel
theorem dX2_isWord_37 : decode cX2_isWord 37 = .ok (.getfield 12, 3) := by decide +kernel
theorem dX2_isWord_40 : decode cX2_isWord 40 = .ok (.aload_n 0, 1) := by decide +kernel
theorem dX2_isWord_41 : decode cX2_isWord 41 = .ok (.getfield 22, 3) := by decide +kernel
theorem dX2_isWord_44 : decode cX2_isWord 44 = .ok (.iload_n 2, 1) := by decide +kernel
theorem dX2_isWord_45 : decode cX2_isWord 45 = .ok (.iadd, 1) := by decide +kernel
theorem dX2_isWord_46 : decode cX2_isWord 46 = .ok (.invokevirtual 135, 3) := by decide +kernel
theorem dX2_isWord_49 : decode cX2_isWord 49 = .ok (.aload_n 1, 1) := by decide +kernel
theorem dX2_isWord_50 : decode cX2_isWord 50 = .ok (.iload_n 2, 1) := by decide +kernel
theorem dX2_isWord_51 : decode cX2_isWord 51 = .ok (.invokevirtual 139, 3) := by decide +kernel
theorem dX2_isWord_54 : decode cX2_isWord 54 = .ok (.if_icmp .eq 5, 3) := by decide +kernel
theorem dX2_isWord_57 : decode cX2_isWord 57 = .ok (.iconst 0, 1) := by decide +kernel
theorem dX2_isWord_58 : decode cX2_isWord 58 = .ok (.ireturn, 1) := by decide +kernel
theorem dX2_isWord_59 : decode cX2_isWord 59 = .ok (.iinc 2 1, 3) := by decide +kernel
theorem dX2_isWord_62 : decode cX2_isWord 62 = .ok (.goto (-34), 3) := by decide +kernel
theorem dX2_isWord_65 : decode cX2_isWord 65 = .ok (.iconst 1, 1) := by decide +kernel
theorem dX2_isWord_66 : decode cX2_isWord 66 = .ok (.ireturn, 1) := by decide +kernel
theorem dX2_readNumber_0 : decode cX2_readNumber 0 = .ok (.aload_n 0, 1) := by decide +kernel
theorem dX2_readNumber_1 : decode cX2_readNumber 1 = .ok (.getfield 18, 3) := by decide +kernel
theorem dX2_readNumber_4 : decode cX2_readNumber 4 = .ok (.iconst 2, 1) := by decide +kernel
theorem dX2_readNumber_5 : decode cX2_readNumber 5 = .ok (.if_icmp .ne 11, 3) := by decide +kernel
theorem dX2_readNumber_8 : decode cX2_readNumber 8 = .ok (.aload_n 0, 1) := by decide +kernel
theorem dX2_readNumber_9 : decode cX2_readNumber 9 = .ok (.getfield 28, 3) := by decide +kernel
theorem dX2_readNumber_12 : decode cX2_readNumber 12 = .ok (.iload_n 1, 1) := by decide +kernel
theorem dX2_readNumber_13 : decode cX2_readNumber 13 = .ok (.if_icmp .le 5, 3) := by decide +kernel
theorem dX2_readNumber_16 : decode cX2_readNumber 16 = .ok (.iconst 0, 1) := by decide +kernel
theorem dX2_readNumber_17 : decode cX2_readNumber 17 = .ok (.ireturn, 1) := by decide +kernel
theorem dX2_readNumber_18 : decode cX2_readNumber 18 = .ok (.aload_n 0, 1) := by decide +kernel
theorem dX2_readNumber_19 : decode cX2_readNumber 19 = .ok (.aload_n 0, 1) := by decide +kernel
theorem dX2_readNumber_20 : decode cX2_readNumber 20 = .ok (.getfield 28, 3) := by decide +kernel
theorem dX2_readNumber_23 : decode cX2_readNumber 23 = .ok (.putfield 31, 3) := by decide +kernel
theorem dX2_readNumber_26 : decode cX2_readNumber 26 = .ok (.aload_n 0, 1) := by decide +kernel
theorem dX2_readNumber_27 : decode cX2_readNumber 27 = .ok (.invokevirtual 34, 3) := by decide +kernel
theorem dX2_readNumber_30 : decode cX2_readNumber 30 = .ok (.iconst 1, 1) := by decide +kernel
theorem dX2_readNumber_31 : decode cX2_readNumber 31 = .ok (.ireturn, 1) := by decide +kernel
theorem dX2_advance_0 : decode cX2_advance 0 = .ok (.aload_n 0, 1) := by decide +kernel
theorem dX2_advance_1 : decode cX2_advance 1 = .ok (.aload_n 0, 1) := by decide +kernel
theorem dX2_advance_2 : decode cX2_advance 2 = .ok (.getfield 25, 3) := by decide +kernel
theorem dX2_advance_5 : decode cX2_advance 5 = .ok (.putfield 22, 3) := by decide +kernel
theorem dX2_advance_8 : decode cX2_advance 8 = .ok (.aload_n 0, 1) := by decide +kernel
theorem dX2_advance_9 : decode cX2_advance 9 = .ok (.getfield 22, 3) := by decide +kernel
theorem dX2_advance_12 : decode cX2_advance 12 = .ok (.bipush 120, 2) := by decide +kernel
theorem dX2_advance_14 : decode cX2_advance 14 = .ok (.if_icmp .ge 32, 3) := by decide +kernel
theorem dX2_advance_17 : decode cX2_advance 17 = .ok (.aload_n 0, 1) := by decide +kernel
theorem dX2_advance_18 : decode cX2_advance 18 = .ok (.getfield 12, 3) := by decide +kernel
theorem dX2_advance_21 : decode cX2_advance 21 = .ok (.aload_n 0, 1) := by decide +kernel
theorem dX2_advance_22 : decode cX2_advance 22 = .ok (.getfield 22, 3) := by decide +kernel
theorem dX2_advance_25 : decode cX2_advance 25 = .ok (.invokevirtual 135, 3) := by decide +kernel
theorem dX2_advance_28 : decode cX2_advance 28 = .ok (.bipush 32, 2) := by decide +kernel
theorem dX2_advance_30 : decode cX2_advance 30 = .ok (.if_icmp .ne 16, 3) := by decide +kernel
theorem dX2_advance_33 : decode cX2_advance 33 = .ok (.aload_n 0, 1) := by decide +kernel
theorem dX2_advance_34 : decode cX2_advance 34 = .ok (.dup, 1) := by decide +kernel
theorem dX2_advance_35 : decode cX2_advance 35 = .ok (.getfield 22, 3) := by decide +kernel
theorem dX2_advance_38 : decode cX2_advance 38 = .ok (.iconst 1, 1) := by decide +kernel
theorem dX2_advance_39 : decode cX2_advance 39 = .ok (.iadd, 1) := by decide +kernel
theorem dX2_advance_40 : decode cX2_advance 40 = .ok (.putfield 22, 3) := by decide +kernel
theorem dX2_advance_43 : decode cX2_advance 43 = .ok (.goto (-35), 3) := by decide +kernel
theorem dX2_advance_46 : decode cX2_advance 46 = .ok (.aload_n 0, 1) := by decide +kernel
theorem dX2_advance_47 : decode cX2_advance 47 = .ok (.aload_n 0, 1) := by decide +kernel
theorem dX2_advance_48 : decode cX2_advance 48 = .ok (.getfield 22, 3) := by decide +kernel
theorem dX2_advance_51 : decode cX2_advance 51 = .ok (.putfield 25, 3) := by decide +kernel
theorem dX2_advance_54 : decode cX2_advance 54 = .ok (.aload_n 0, 1) := by decide +kernel
theorem dX2_advance_55 : decode cX2_advance 55 = .ok (.getfield 12, 3) := by decide +kernel
theorem dX2_advance_58 : decode cX2_advance 58 = .ok (.aload_n 0, 1) := by decide +kernel
theorem dX2_advance_59 : decode cX2_advance 59 = .ok (.getfield 22, 3) := by decide +kernel
theorem dX2_advance_62 : decode cX2_advance 62 = .ok (.invokevirtual 135, 3) := by decide +kernel
theorem dX2_advance_65 : decode cX2_advance 65 = .ok (.istore_n 1, 1) := by decide +kernel
theorem dX2_advance_66 : decode cX2_advance 66 = .ok (.iload_n 1, 1) := by decide +kernel
theorem dX2_advance_67 : decode cX2_advance 67 = .ok (.ifCond .ge 11, 3) := by decide +kernel
theorem dX2_advance_70 : decode cX2_advance 70 = .ok (.aload_n 0, 1) := by decide +kernel
theorem dX2_advance_71 : decode cX2_advance 71 = .ok (.iconst 0, 1) := by decide +kernel
theorem dX2_advance_72 : decode cX2_advance 72 = .ok (.putfield 18, 3) := by decide +kernel
theorem dX2_advance_75 : decode cX2_advance 75 = .ok (.goto 167, 3) := by decide +kernel
theorem dX2_advance_78 : decode cX2_advance 78 = .ok (.iload_n 1, 1) := by decide +kernel
theorem dX2_advance_79 : decode cX2_advance 79 = .ok (.invokestatic 143, 3) := by decide +kernel
theorem dX2_advance_82 : decode cX2_advance 82 = .ok (.ifCond .eq 47, 3) := by decide +kernel
theorem dX2_advance_85 : decode cX2_advance 85 = .ok (.aload_n 0, 1) := by decide +kernel
theorem dX2_advance_86 : decode cX2_advance 86 = .ok (.iconst 1, 1) := by decide +kernel
theorem dX2_advance_87 : decode cX2_advance 87 = .ok (.putfield 18, 3) := by decide +kernel
theorem dX2_advance_90 : decode cX2_advance 90 = .ok (.aload_n 0, 1) := by decide +kernel
theorem dX2_advance_91 : decode cX2_advance 91 = .ok (.getfield 25, 3) := by decide +kernel
theorem dX2_advance_94 : decode cX2_advance 94 = .ok (.bipush 120, 2) := by decide +kernel
theorem dX2_advance_96 : decode cX2_advance 96 = .ok (.if_icmp .ge 146, 3) := by decide +kernel
theorem dX2_advance_99 : decode cX2_advance 99 = .ok (.aload_n 0, 1) := by decide +kernel
theorem dX2_advance_100 : decode cX2_advance 100 = .ok (.getfield 12, 3) := by decide +kernel
theorem dX2_advance_103 : decode cX2_advance 103 = .ok (.aload_n 0, 1) := by decide +kernel
theorem dX2_advance_104 : decode cX2_advance 104 = .ok (.getfield 25, 3) := by decide +kernel
theorem dX2_advance_107 : decode cX2_advance 107 = .ok (.invokevirtual 135, 3) := by decide +kernel
theorem dX2_advance_110 : decode cX2_advance 110 = .ok (.invokestatic 143, 3) := by decide +kernel
theorem dX2_advance_113 : decode cX2_advance 113 = .ok (.ifCond .eq 129, 3) := by decide +kernel
theorem dX2_advance_116 : decode cX2_advance 116 = .ok (.aload_n 0, 1) := by decide +kernel
theorem dX2_advance_117 : decode cX2_advance 117 = .ok (.dup, 1) := by decide +kernel
theorem dX2_advance_118 : decode cX2_advance 118 = .ok (.getfield 25, 3) := by decide +kernel
theorem dX2_advance_121 : decode cX2_advance 121 = .ok (.iconst 1, 1) := by decide +kernel
theorem dX2_advance_122 : decode cX2_advance 122 = .ok (.iadd, 1) := by decide +kernel
theorem dX2_advance_123 : decode cX2_advance 123 = .ok (.putfield 25, 3) := by decide +kernel
theorem dX2_advance_126 : decode cX2_advance 126 = .ok (.goto (-36), 3) := by decide +kernel
theorem dX2_advance_129 : decode cX2_advance 129 = .ok (.iload_n 1, 1) := by decide +kernel
theorem dX2_advance_130 : decode cX2_advance 130 = .ok (.invokestatic 146, 3) := by decide +kernel
theorem dX2_advance_133 : decode cX2_advance 133 = .ok (.ifCond .eq 84, 3) := by decide +kernel
theorem dX2_advance_136 : decode cX2_advance 136 = .ok (.aload_n 0, 1) := by decide +kernel
theorem dX2_advance_137 : decode cX2_advance 137 = .ok (.iconst 2, 1) := by decide +kernel
theorem dX2_advance_138 : decode cX2_advance 138 = .ok (.putfield 18, 3) := by decide +kernel
theorem dX2_advance_141 : decode cX2_advance 141 = .ok (.aload_n 0, 1) := by decide +kernel
theorem dX2_advance_142 : decode cX2_advance 142 = .ok (.iconst 0, 1) := by decide +kernel
theorem dX2_advance_143 : decode cX2_advance 143 = .ok (.putfield 28, 3) := by decide +kernel
theorem dX2_advance_146 : decode cX2_advance 146 = .ok (.aload_n 0, 1) := by decide +kernel
theorem dX2_advance_147 : decode cX2_advance 147 = .ok (.getfield 25, 3) := by decide +kernel
theorem dX2_advance_150 : decode cX2_advance 150 = .ok (.bipush 120, 2) := by decide +kernel
theorem dX2_advance_152 : decode cX2_advance 152 = .ok (.if_icmp .ge 90, 3) := by decide +kernel
theorem dX2_advance_155 : decode cX2_advance 155 = .ok (.aload_n 0, 1) := by decide +kernel
theorem dX2_advance_156 : decode cX2_advance 156 = .ok (.getfield 12, 3) := by decide +kernel
theorem dX2_advance_159 : decode cX2_advance 159 = .ok (.aload_n 0, 1) := by decide +kernel
theorem dX2_advance_160 : decode cX2_advance 160 = .ok (.getfield 25, 3) := by decide +kernel
theorem dX2_advance_163 : decode cX2_advance 163 = .ok (.invokevirtual 135, 3) := by decide +kernel
theorem dX2_advance_166 : decode cX2_advance 166 = .ok (.invokestatic 146, 3) := by decide +kernel
theorem dX2_advance_169 : decode cX2_advance 169 = .ok (.ifCond .eq 73, 3) := by decide +kernel
theorem dX2_advance_172 : decode cX2_advance 172 = .ok (.aload_n 0, 1) := by decide +kernel
theorem dX2_advance_173 : decode cX2_advance 173 = .ok (.bipush 10, 2) := by decide +kernel
theorem dX2_advance_175 : decode cX2_advance 175 = .ok (.aload_n 0, 1) := by decide +kernel
theorem dX2_advance_176 : decode cX2_advance 176 = .ok (.getfield 28, 3) := by decide +kernel
theorem dX2_advance_179 : decode cX2_advance 179 = .ok (.imul, 1) := by decide +kernel
theorem dX2_advance_180 : decode cX2_advance 180 = .ok (.aload_n 0, 1) := by decide +kernel
theorem dX2_advance_181 : decode cX2_advance 181 = .ok (.getfield 12, 3) := by decide +kernel
theorem dX2_advance_184 : decode cX2_advance 184 = .ok (.aload_n 0, 1) := by decide +kernel
theorem dX2_advance_185 : decode cX2_advance 185 = .ok (.getfield 25, 3) := by decide +kernel
theorem dX2_advance_188 : decode cX2_advance 188 = .ok (.invokevirtual 135, 3) := by decide +kernel
theorem dX2_advance_191 : decode cX2_advance 191 = .ok (.iadd, 1) := by decide +kernel
theorem dX2_advance_192 : decode cX2_advance 192 = .ok (.bipush 48, 2) := by decide +kernel
theorem dX2_advance_194 : decode cX2_advance 194 = .ok (.isub, 1) := by decide +kernel
theorem dX2_advance_195 : decode cX2_advance 195 = .ok (.sipush 10000, 3) := by decide +kernel
theorem dX2_advance_198 : decode cX2_advance 198 = .ok (.invokestatic 149, 3) := by decide +kernel
theorem dX2_advance_201 : decode cX2_advance 201 = .ok (.putfield 28, 3) := by decide +kernel
theorem dX2_advance_204 : decode cX2_advance 204 = .ok (.aload_n 0, 1) := by decide +kernel
theorem dX2_advance_205 : decode cX2_advance 205 = .ok (.dup, 1) := by decide +kernel
theorem dX2_advance_206 : decode cX2_advance 206 = .ok (.getfield 25, 3) := by decide +kernel
theorem dX2_advance_209 : decode cX2_advance 209 = .ok (.iconst 1, 1) := by decide +kernel
theorem dX2_advance_210 : decode cX2_advance 210 = .ok (.iadd, 1) := by decide +kernel
theorem dX2_advance_211 : decode cX2_advance 211 = .ok (.putfield 25, 3) := by decide +kernel
theorem dX2_advance_214 : decode cX2_advance 214 = .ok (.goto (-68), 3) := by decide +kernel
theorem dX2_advance_217 : decode cX2_advance 217 = .ok (.aload_n 0, 1) := by decide +kernel
theorem dX2_advance_218 : decode cX2_advance 218 = .ok (.iload_n 1, 1) := by decide +kernel
theorem dX2_advance_219 : decode cX2_advance 219 = .ok (.bipush 59, 2) := by decide +kernel
theorem dX2_advance_221 : decode cX2_advance 221 = .ok (.if_icmp .ne 7, 3) := by decide +kernel
theorem dX2_advance_224 : decode cX2_advance 224 = .ok (.iconst 3, 1) := by decide +kernel
theorem dX2_advance_225 : decode cX2_advance 225 = .ok (.goto 4, 3) := by decide +kernel
theorem dX2_advance_228 : decode cX2_advance 228 = .ok (.iconst 4, 1) := by decide +kernel
theorem dX2_advance_229 : decode cX2_advance 229 = .ok (.putfield 18, 3) := by decide +kernel
theorem dX2_advance_232 : decode cX2_advance 232 = .ok (.aload_n 0, 1) := by decide +kernel
theorem dX2_advance_233 : decode cX2_advance 233 = .ok (.dup, 1) := by decide +kernel
theorem dX2_advance_234 : decode cX2_advance 234 = .ok (.getfield 25, 3) := by decide +kernel
theorem dX2_advance_237 : decode cX2_advance 237 = .ok (.iconst 1, 1) := by decide +kernel
theorem dX2_advance_238 : decode cX2_advance 238 = .ok (.iadd, 1) := by decide +kernel
theorem dX2_advance_239 : decode cX2_advance 239 = .ok (.putfield 25, 3) := by decide +kernel
theorem dX2_advance_242 : decode cX2_advance 242 = .ok (.return_, 1) := by decide +kernel
theorem dX2_isLetter_0 : decode cX2_isLetter 0 = .ok (.iload_n 0, 1) := by decide +kernel
theorem dX2_isLetter_1 : decode cX2_isLetter 1 = .ok (.bipush 97, 2) := by decide +kernel
theorem dX2_isLetter_3 : decode cX2_isLetter 3 = .ok (.if_icmp .lt 13, 3) := by decide +kernel
theorem dX2_isLetter_6 : decode cX2_isLetter 6 = .ok (.iload_n 0, 1) := by decide +kernel
theorem dX2_isLetter_7 : decode cX2_isLetter 7 = .ok (.bipush 122, 2) := by decide +kernel
theorem dX2_isLetter_9 : decode cX2_isLetter 9 = .ok (.if_icmp .gt 7, 3) := by decide +kernel
theorem dX2_isLetter_12 : decode cX2_isLetter 12 = .ok (.iconst 1, 1) := by decide +kernel
theorem dX2_isLetter_13 : decode cX2_isLetter 13 = .ok (.goto 4, 3) := by decide +kernel
theorem dX2_isLetter_16 : decode cX2_isLetter 16 = .ok (.iconst 0, 1) := by decide +kernel
theorem dX2_isLetter_17 : decode cX2_isLetter 17 = .ok (.ireturn, 1) := by decide +kernel
theorem dX2_isDigit_0 : decode cX2_isDigit 0 = .ok (.iload_n 0, 1) := by decide +kernel
theorem dX2_isDigit_1 : decode cX2_isDigit 1 = .ok (.bipush 48, 2) := by decide +kernel
theorem dX2_isDigit_3 : decode cX2_isDigit 3 = .ok (.if_icmp .lt 13, 3) := by decide +kernel
theorem dX2_isDigit_6 : decode cX2_isDigit 6 = .ok (.iload_n 0, 1) := by decide +kernel
theorem dX2_isDigit_7 : decode cX2_isDigit 7 = .ok (.bipush 57, 2) := by decide +kernel
theorem dX2_isDigit_9 : decode cX2_isDigit 9 = .ok (.if_icmp .gt 7, 3) := by decide +kernel
theorem dX2_isDigit_12 : decode cX2_isDigit 12 = .ok (.iconst 1, 1) := by decide +kernel
theorem dX2_isDigit_13 : decode cX2_isDigit 13 = .ok (.goto 4, 3) := by decide +kernel
theorem dX2_isDigit_16 : decode cX2_isDigit 16 = .ok (.iconst 0, 1) := by decide +kernel
theorem dX2_isDigit_17 : decode cX2_isDigit 17 = .ok (.ireturn, 1) := by decide +kernel
theorem dX3_init_0 : decode cX3_init 0 = .ok (.aload_n 0, 1) := by decide +kernel
theorem dX3_init_1 : decode cX3_init 1 = .ok (.invokespecial 3, 3) := by decide +kernel
theorem dX3_init_4 : decode cX3_init 4 = .ok (.aload_n 0, 1) := by decide +kernel
theorem dX3_init_5 : decode cX3_init 5 = .ok (.new 9, 3) := by decide +kernel
theorem dX3_init_8 : decode cX3_init 8 = .ok (.dup, 1) := by decide +kernel
theorem dX3_init_9 : decode cX3_init 9 = .ok (.invokespecial 11, 3) := by decide +kernel
theorem dX3_init_12 : decode cX3_init 12 = .ok (.putfield 12, 3) := by decide +kernel
theorem dX3_init_15 : decode cX3_init 15 = .ok (.return_, 1) := by decide +kernel
theorem dX3_dreamOf_0 : decode cX3_dreamOf 0 = .ok (.aload_n 0, 1) := by decide +kernel
theorem dX3_dreamOf_1 : decode cX3_dreamOf 1 = .ok (.getfield 12, 3) := by decide +kernel
theorem dX3_dreamOf_4 : decode cX3_dreamOf 4 = .ok (.aload_n 1, 1) := by decide +kernel
theorem dX3_dreamOf_5 : decode cX3_dreamOf 5 = .ok (.invokevirtual 18, 3) := by decide +kernel
theorem dX3_dreamOf_8 : decode cX3_dreamOf 8 = .ok (.aload_n 0, 1) := by decide +kernel
theorem dX3_dreamOf_9 : decode cX3_dreamOf 9 = .ok (.getfield 12, 3) := by decide +kernel
theorem dX3_dreamOf_12 : decode cX3_dreamOf 12 = .ok (.areturn, 1) := by decide +kernel
theorem dX3_tellBehind_0 : decode cX3_tellBehind 0 = .ok (.aload_n 0, 1) := by decide +kernel
theorem dX3_tellBehind_1 : decode cX3_tellBehind 1 = .ok (.getfield 12, 3) := by decide +kernel
theorem dX3_tellBehind_4 : decode cX3_tellBehind 4 = .ok (.aload_n 1, 1) := by decide +kernel
theorem dX3_tellBehind_5 : decode cX3_tellBehind 5 = .ok (.invokevirtual 18, 3) := by decide +kernel
theorem dX3_tellBehind_8 : decode cX3_tellBehind 8 = .ok (.aload_n 0, 1) := by decide +kernel
theorem dX3_tellBehind_9 : decode cX3_tellBehind 9 = .ok (.getfield 12, 3) := by decide +kernel
theorem dX3_tellBehind_12 : decode cX3_tellBehind 12 = .ok (.iload 4, 2) := by decide +kernel
theorem dX3_tellBehind_14 : decode cX3_tellBehind 14 = .ok (.invokevirtual 22, 3) := by decide +kernel
theorem dX3_tellBehind_17 : decode cX3_tellBehind 17 = .ok (.aload_n 0, 1) := by decide +kernel
theorem dX3_tellBehind_18 : decode cX3_tellBehind 18 = .ok (.getfield 12, 3) := by decide +kernel
theorem dX3_tellBehind_21 : decode cX3_tellBehind 21 = .ok (.iload_n 2, 1) := by decide +kernel
theorem dX3_tellBehind_22 : decode cX3_tellBehind 22 = .ok (.invokevirtual 26, 3) := by decide +kernel
theorem dX3_tellBehind_25 : decode cX3_tellBehind 25 = .ok (.astore 5, 2) := by decide +kernel
theorem dX3_tellBehind_27 : decode cX3_tellBehind 27 = .ok (.aload 5, 2) := by decide +kernel
theorem dX3_tellBehind_29 : decode cX3_tellBehind 29 = .ok (.ifnonnull 7, 3) := by decide +kernel
theorem dX3_tellBehind_32 : decode cX3_tellBehind 32 = .ok (.iconst (-1), 1) := by decide +kernel
theorem dX3_tellBehind_33 : decode cX3_tellBehind 33 = .ok (.goto 13, 3) := by decide +kernel
theorem dX3_tellBehind_36 : decode cX3_tellBehind 36 = .ok (.aload_n 0, 1) := by decide +kernel
theorem dX3_tellBehind_37 : decode cX3_tellBehind 37 = .ok (.getfield 12, 3) := by decide +kernel
theorem dX3_tellBehind_40 : decode cX3_tellBehind 40 = .ok (.aload 5, 2) := by decide +kernel
theorem dX3_tellBehind_42 : decode cX3_tellBehind 42 = .ok (.iload_n 3, 1) := by decide +kernel
theorem dX3_tellBehind_43 : decode cX3_tellBehind 43 = .ok (.invokevirtual 30, 3) := by decide +kernel
theorem dX3_tellBehind_46 : decode cX3_tellBehind 46 = .ok (.ireturn, 1) := by decide +kernel
theorem dX3_daysTillIll_0 : decode cX3_daysTillIll 0 = .ok (.aload_n 0, 1) := by decide +kernel
theorem dX3_daysTillIll_1 : decode cX3_daysTillIll 1 = .ok (.getfield 12, 3) := by decide +kernel
theorem dX3_daysTillIll_4 : decode cX3_daysTillIll 4 = .ok (.aload_n 1, 1) := by decide +kernel
theorem dX3_daysTillIll_5 : decode cX3_daysTillIll 5 = .ok (.invokevirtual 18, 3) := by decide +kernel
theorem dX3_daysTillIll_8 : decode cX3_daysTillIll 8 = .ok (.aload_n 0, 1) := by decide +kernel
theorem dX3_daysTillIll_9 : decode cX3_daysTillIll 9 = .ok (.getfield 12, 3) := by decide +kernel
theorem dX3_daysTillIll_12 : decode cX3_daysTillIll 12 = .ok (.iload_n 2, 1) := by decide +kernel
theorem dX3_daysTillIll_13 : decode cX3_daysTillIll 13 = .ok (.invokevirtual 26, 3) := by decide +kernel
theorem dX3_daysTillIll_16 : decode cX3_daysTillIll 16 = .ok (.astore_n 3, 1) := by decide +kernel
theorem dX3_daysTillIll_17 : decode cX3_daysTillIll 17 = .ok (.aload_n 3, 1) := by decide +kernel
theorem dX3_daysTillIll_18 : decode cX3_daysTillIll 18 = .ok (.ifnonnull 5, 3) := by decide +kernel
theorem dX3_daysTillIll_21 : decode cX3_daysTillIll 21 = .ok (.iconst (-1), 1) := by decide +kernel
theorem dX3_daysTillIll_22 : decode cX3_daysTillIll 22 = .ok (.ireturn, 1) := by decide +kernel
theorem dX3_daysTillIll_23 : decode cX3_daysTillIll 23 = .ok (.aload_n 3, 1) := by decide +kernel
theorem dX3_daysTillIll_24 : decode cX3_daysTillIll 24 = .ok (.getfield 34, 3) := by decide +kernel
theorem dX3_daysTillIll_27 : decode cX3_daysTillIll 27 = .ok (.istore 4, 2) := by decide +kernel
theorem dX3_daysTillIll_29 : decode cX3_daysTillIll 29 = .ok (.iconst 1, 1) := by decide +kernel
theorem dX3_daysTillIll_30 : decode cX3_daysTillIll 30 = .ok (.istore 5, 2) := by decide +kernel
theorem dX3_daysTillIll_32 : decode cX3_daysTillIll 32 = .ok (.iload 5, 2) := by decide +kernel
theorem dX3_daysTillIll_34 : decode cX3_daysTillIll 34 = .ok (.sipush 200, 3) := by decide +kernel
theorem dX3_daysTillIll_37 : decode cX3_daysTillIll 37 = .ok (.if_icmp .gt 28, 3) := by decide +kernel
theorem dX3_daysTillIll_40 : decode cX3_daysTillIll 40 = .ok (.aload_n 0, 1) := by decide +kernel
theorem dX3_daysTillIll_41 : decode cX3_daysTillIll 41 = .ok (.getfield 12, 3) := by decide +kernel
theorem dX3_daysTillIll_44 : decode cX3_daysTillIll 44 = .ok (.invokevirtual 40, 3) := by decide +kernel
theorem dX3_daysTillIll_47 : decode cX3_daysTillIll 47 = .ok (.aload_n 3, 1) := by decide +kernel
theorem dX3_daysTillIll_48 : decode cX3_daysTillIll 48 = .ok (.getfield 34, 3) := by decide +kernel
theorem dX3_daysTillIll_51 : decode cX3_daysTillIll 51 = .ok (.iload 4, 2) := by decide +kernel
theorem dX3_daysTillIll_53 : decode cX3_daysTillIll 53 = .ok (.if_icmp .le 6, 3) := by decide +kernel
theorem dX3_daysTillIll_56 : decode cX3_daysTillIll 56 = .ok (.iload 5, 2) := by decide +kernel
theorem dX3_daysTillIll_58 : decode cX3_daysTillIll 58 = .ok (.ireturn, 1) := by decide +kernel
theorem dX3_daysTillIll_59 : decode cX3_daysTillIll 59 = .ok (.iinc 5 1, 3) := by decide +kernel
theorem dX3_daysTillIll_62 : decode cX3_daysTillIll 62 = .ok (.goto (-30), 3) := by decide +kernel
theorem dX3_daysTillIll_65 : decode cX3_daysTillIll 65 = .ok (.iconst (-1), 1) := by decide +kernel
theorem dX3_daysTillIll_66 : decode cX3_daysTillIll 66 = .ok (.ireturn, 1) := by decide +kernel
theorem dX3_daysTillOut_0 : decode cX3_daysTillOut 0 = .ok (.aload_n 0, 1) := by decide +kernel
theorem dX3_daysTillOut_1 : decode cX3_daysTillOut 1 = .ok (.getfield 12, 3) := by decide +kernel
theorem dX3_daysTillOut_4 : decode cX3_daysTillOut 4 = .ok (.aload_n 1, 1) := by decide +kernel
theorem dX3_daysTillOut_5 : decode cX3_daysTillOut 5 = .ok (.invokevirtual 18, 3) := by decide +kernel
theorem dX3_daysTillOut_8 : decode cX3_daysTillOut 8 = .ok (.iconst 0, 1) := by decide +kernel
theorem dX3_daysTillOut_9 : decode cX3_daysTillOut 9 = .ok (.istore_n 3, 1) := by decide +kernel
theorem dX3_daysTillOut_10 : decode cX3_daysTillOut 10 = .ok (.iload_n 3, 1) := by decide +kernel
theorem dX3_daysTillOut_11 : decode cX3_daysTillOut 11 = .ok (.sipush 200, 3) := by decide +kernel
theorem dX3_daysTillOut_14 : decode cX3_daysTillOut 14 = .ok (.if_icmp .gt 32, 3) := by decide +kernel
theorem dX3_daysTillOut_17 : decode cX3_daysTillOut 17 = .ok (.aload_n 0, 1) := by decide +kernel
theorem dX3_daysTillOut_18 : decode cX3_daysTillOut 18 = .ok (.getfield 12, 3) := by decide +kernel
theorem dX3_daysTillOut_21 : decode cX3_daysTillOut 21 = .ok (.getfield 43, 3) := by decide +kernel
theorem dX3_daysTillOut_24 : decode cX3_daysTillOut 24 = .ok (.iload_n 2, 1) := by decide +kernel
theorem dX3_daysTillOut_25 : decode cX3_daysTillOut 25 = .ok (.ishr, 1) := by decide +kernel
theorem dX3_daysTillOut_26 : decode cX3_daysTillOut 26 = .ok (.iconst 1, 1) := by decide +kernel
theorem dX3_daysTillOut_27 : decode cX3_daysTillOut 27 = .ok (.iand, 1) := by decide +kernel
theorem dX3_daysTillOut_28 : decode cX3_daysTillOut 28 = .ok (.ifCond .eq 5, 3) := by decide +kernel
theorem dX3_daysTillOut_31 : decode cX3_daysTillOut 31 = .ok (.iload_n 3, 1) := by decide +kernel
theorem dX3_daysTillOut_32 : decode cX3_daysTillOut 32 = .ok (.ireturn, 1) := by decide +kernel
theorem dX3_daysTillOut_33 : decode cX3_daysTillOut 33 = .ok (.aload_n 0, 1) := by decide +kernel
theorem dX3_daysTillOut_34 : decode cX3_daysTillOut 34 = .ok (.getfield 12, 3) := by decide +kernel
theorem dX3_daysTillOut_37 : decode cX3_daysTillOut 37 = .ok (.invokevirtual 40, 3) := by decide +kernel
theorem dX3_daysTillOut_40 : decode cX3_daysTillOut 40 = .ok (.iinc 3 1, 3) := by decide +kernel
theorem dX3_daysTillOut_43 : decode cX3_daysTillOut 43 = .ok (.goto (-33), 3) := by decide +kernel
theorem dX3_daysTillOut_46 : decode cX3_daysTillOut 46 = .ok (.iconst (-1), 1) := by decide +kernel
theorem dX3_daysTillOut_47 : decode cX3_daysTillOut 47 = .ok (.ireturn, 1) := by decide +kernel
theorem dX3_daysTillWise_0 : decode cX3_daysTillWise 0 = .ok (.aload_n 0, 1) := by decide +kernel
theorem dX3_daysTillWise_1 : decode cX3_daysTillWise 1 = .ok (.getfield 12, 3) := by decide +kernel
theorem dX3_daysTillWise_4 : decode cX3_daysTillWise 4 = .ok (.aload_n 1, 1) := by decide +kernel
theorem dX3_daysTillWise_5 : decode cX3_daysTillWise 5 = .ok (.invokevirtual 18, 3) := by decide +kernel
theorem dX3_daysTillWise_8 : decode cX3_daysTillWise 8 = .ok (.aload_n 0, 1) := by decide +kernel
theorem dX3_daysTillWise_9 : decode cX3_daysTillWise 9 = .ok (.getfield 12, 3) := by decide +kernel
theorem dX3_daysTillWise_12 : decode cX3_daysTillWise 12 = .ok (.iload_n 2, 1) := by decide +kernel
theorem dX3_daysTillWise_13 : decode cX3_daysTillWise 13 = .ok (.invokevirtual 26, 3) := by decide +kernel
theorem dX3_daysTillWise_16 : decode cX3_daysTillWise 16 = .ok (.astore 4, 2) := by decide +kernel
theorem dX3_daysTillWise_18 : decode cX3_daysTillWise 18 = .ok (.iconst 0, 1) := by decide +kernel
theorem dX3_daysTillWise_19 : decode cX3_daysTillWise 19 = .ok (.istore 5, 2) := by decide +kernel
theorem dX3_daysTillWise_21 : decode cX3_daysTillWise 21 = .ok (.aload 4, 2) := by decide +kernel
theorem dX3_daysTillWise_23 : decode cX3_daysTillWise 23 = .ok (.ifnull 39, 3) := by decide +kernel
theorem dX3_daysTillWise_26 : decode cX3_daysTillWise 26 = .ok (.iload 5, 2) := by decide +kernel
theorem dX3_daysTillWise_28 : decode cX3_daysTillWise 28 = .ok (.sipush 200, 3) := by decide +kernel
theorem dX3_daysTillWise_31 : decode cX3_daysTillWise 31 = .ok (.if_icmp .gt 31, 3) := by decide +kernel
theorem dX3_daysTillWise_34 : decode cX3_daysTillWise 34 = .ok (.aload 4, 2) := by decide +kernel
theorem dX3_daysTillWise_36 : decode cX3_daysTillWise 36 = .ok (.getfield 46, 3) := by decide +kernel
theorem dX3_daysTillWise_39 : decode cX3_daysTillWise 39 = .ok (.invokestatic 49, 3) := by decide +kernel
theorem dX3_daysTillWise_42 : decode cX3_daysTillWise 42 = .ok (.iload_n 3, 1) := by decide +kernel
theorem dX3_daysTillWise_43 : decode cX3_daysTillWise 43 = .ok (.if_icmp .lt 6, 3) := by decide +kernel
theorem dX3_daysTillWise_46 : decode cX3_daysTillWise 46 = .ok (.iload 5, 2) := by decide +kernel
theorem dX3_daysTillWise_48 : decode cX3_daysTillWise 48 = .ok (.ireturn, 1) := by decide +kernel
theorem dX3_daysTillWise_49 : decode cX3_daysTillWise 49 = .ok (.aload_n 0, 1) := by decide +kernel
theorem dX3_daysTillWise_50 : decode cX3_daysTillWise 50 = .ok (.getfield 12, 3) := by decide +kernel
theorem dX3_daysTillWise_53 : decode cX3_daysTillWise 53 = .ok (.invokevirtual 40, 3) := by decide +kernel
theorem dX3_daysTillWise_56 : decode cX3_daysTillWise 56 = .ok (.iinc 5 1, 3) := by decide +kernel
theorem dX3_daysTillWise_59 : decode cX3_daysTillWise 59 = .ok (.goto (-38), 3) := by decide +kernel
theorem dX3_daysTillWise_62 : decode cX3_daysTillWise 62 = .ok (.iconst (-1), 1) := by decide +kernel
theorem dX3_daysTillWise_63 : decode cX3_daysTillWise 63 = .ok (.ireturn, 1) := by decide +kernel
theorem dX3_daysTillStuffed_0 : decode cX3_daysTillStuffed 0 = .ok (.aload_n 0, 1) := by decide +kernel
theorem dX3_daysTillStuffed_1 : decode cX3_daysTillStuffed 1 = .ok (.getfield 12, 3) := by decide +kernel
theorem dX3_daysTillStuffed_4 : decode cX3_daysTillStuffed 4 = .ok (.aload_n 1, 1) := by decide +kernel
theorem dX3_daysTillStuffed_5 : decode cX3_daysTillStuffed 5 = .ok (.invokevirtual 18, 3) := by decide +kernel
theorem dX3_daysTillStuffed_8 : decode cX3_daysTillStuffed 8 = .ok (.aload_n 0, 1) := by decide +kernel
theorem dX3_daysTillStuffed_9 : decode cX3_daysTillStuffed 9 = .ok (.getfield 12, 3) := by decide +kernel
theorem dX3_daysTillStuffed_12 : decode cX3_daysTillStuffed 12 = .ok (.iload_n 2, 1) := by decide +kernel
theorem dX3_daysTillStuffed_13 : decode cX3_daysTillStuffed 13 = .ok (.invokevirtual 26, 3) := by decide +kernel
theorem dX3_daysTillStuffed_16 : decode cX3_daysTillStuffed 16 = .ok (.astore 4, 2) := by decide +kernel
theorem dX3_daysTillStuffed_18 : decode cX3_daysTillStuffed 18 = .ok (.iconst 0, 1) := by decide +kernel
theorem dX3_daysTillStuffed_19 : decode cX3_daysTillStuffed 19 = .ok (.istore 5, 2) := by decide +kernel
theorem dX3_daysTillStuffed_21 : decode cX3_daysTillStuffed 21 = .ok (.aload 4, 2) := by decide +kernel
theorem dX3_daysTillStuffed_23 : decode cX3_daysTillStuffed 23 = .ok (.ifnull 36, 3) := by decide +kernel
theorem dX3_daysTillStuffed_26 : decode cX3_daysTillStuffed 26 = .ok (.iload 5, 2) := by decide +kernel
theorem dX3_daysTillStuffed_28 : decode cX3_daysTillStuffed 28 = .ok (.sipush 200, 3) := by decide +kernel
theorem dX3_daysTillStuffed_31 : decode cX3_daysTillStuffed 31 = .ok (.if_icmp .gt 28, 3) := by decide +kernel
theorem dX3_daysTillStuffed_34 : decode cX3_daysTillStuffed 34 = .ok (.aload 4, 2) := by decide +kernel
theorem dX3_daysTillStuffed_36 : decode cX3_daysTillStuffed 36 = .ok (.getfield 55, 3) := by decide +kernel
theorem dX3_daysTillStuffed_39 : decode cX3_daysTillStuffed 39 = .ok (.iload_n 3, 1) := by decide +kernel
theorem dX3_daysTillStuffed_40 : decode cX3_daysTillStuffed 40 = .ok (.if_icmp .lt 6, 3) := by decide +kernel
theorem dX3_daysTillStuffed_43 : decode cX3_daysTillStuffed 43 = .ok (.iload 5, 2) := by decide +kernel
theorem dX3_daysTillStuffed_45 : decode cX3_daysTillStuffed 45 = .ok (.ireturn, 1) := by decide +kernel
theorem dX3_daysTillStuffed_46 : decode cX3_daysTillStuffed 46 = .ok (.aload_n 0, 1) := by decide +kernel
theorem dX3_daysTillStuffed_47 : decode cX3_daysTillStuffed 47 = .ok (.getfield 12, 3) := by decide +kernel
theorem dX3_daysTillStuffed_50 : decode cX3_daysTillStuffed 50 = .ok (.invokevirtual 40, 3) := by decide +kernel
theorem dX3_daysTillStuffed_53 : decode cX3_daysTillStuffed 53 = .ok (.iinc 5 1, 3) := by decide +kernel
theorem dX3_daysTillStuffed_56 : decode cX3_daysTillStuffed 56 = .ok (.goto (-35), 3) := by decide +kernel
theorem dX3_daysTillStuffed_59 : decode cX3_daysTillStuffed 59 = .ok (.iconst (-1), 1) := by decide +kernel
theorem dX3_daysTillStuffed_60 : decode cX3_daysTillStuffed 60 = .ok (.ireturn, 1) := by decide +kernel
theorem dX3_mostHarmlessWords_0 : decode cX3_mostHarmlessWords 0 = .ok (.iload_n 2, 1) := by decide +kernel
theorem dX3_mostHarmlessWords_1 : decode cX3_mostHarmlessWords 1 = .ok (.iconst 5, 1) := by decide +kernel
theorem dX3_mostHarmlessWords_2 : decode cX3_mostHarmlessWords 2 = .ok (.invokestatic 58, 3) := by decide +kernel
theorem dX3_mostHarmlessWords_5 : decode cX3_mostHarmlessWords 5 = .ok (.ifCond .ne 5, 3) := by decide +kernel
theorem dX3_mostHarmlessWords_8 : decode cX3_mostHarmlessWords 8 = .ok (.iconst (-1), 1) := by decide +kernel
theorem dX3_mostHarmlessWords_9 : decode cX3_mostHarmlessWords 9 = .ok (.ireturn, 1) := by decide +kernel
theorem dX3_mostHarmlessWords_10 : decode cX3_mostHarmlessWords 10 = .ok (.aload_n 1, 1) := by decide +kernel
theorem dX3_mostHarmlessWords_11 : decode cX3_mostHarmlessWords 11 = .ok (.getfield 62, 3) := by decide +kernel
theorem dX3_mostHarmlessWords_14 : decode cX3_mostHarmlessWords 14 = .ok (.iload_n 2, 1) := by decide +kernel
theorem dX3_mostHarmlessWords_15 : decode cX3_mostHarmlessWords 15 = .ok (.iaload, 1) := by decide +kernel
theorem dX3_mostHarmlessWords_16 : decode cX3_mostHarmlessWords 16 = .ok (.invokestatic 66, 3) := by decide +kernel
theorem dX3_mostHarmlessWords_19 : decode cX3_mostHarmlessWords 19 = .ok (.istore 4, 2) := by decide +kernel
theorem dX3_mostHarmlessWords_21 : decode cX3_mostHarmlessWords 21 = .ok (.aload_n 1, 1) := by decide +kernel
theorem dX3_mostHarmlessWords_22 : decode cX3_mostHarmlessWords 22 = .ok (.iconst 5, 1) := by decide +kernel
theorem dX3_mostHarmlessWords_23 : decode cX3_mostHarmlessWords 23 = .ok (.invokevirtual 69, 3) := by decide +kernel
theorem dX3_mostHarmlessWords_26 : decode cX3_mostHarmlessWords 26 = .ok (.istore 5, 2) := by decide +kernel
theorem dX3_mostHarmlessWords_28 : decode cX3_mostHarmlessWords 28 = .ok (.bipush 40, 2) := by decide +kernel
theorem dX3_mostHarmlessWords_30 : decode cX3_mostHarmlessWords 30 = .ok (.istore 6, 2) := by decide +kernel
theorem dX3_mostHarmlessWords_32 : decode cX3_mostHarmlessWords 32 = .ok (.iload 6, 2) := by decide +kernel
theorem dX3_mostHarmlessWords_34 : decode cX3_mostHarmlessWords 34 = .ok (.ifCond .lt 57, 3) := by decide +kernel
theorem dX3_mostHarmlessWords_37 : decode cX3_mostHarmlessWords 37 = .ok (.aload_n 0, 1) := by decide +kernel
theorem dX3_mostHarmlessWords_38 : decode cX3_mostHarmlessWords 38 = .ok (.getfield 12, 3) := by decide +kernel
theorem dX3_mostHarmlessWords_41 : decode cX3_mostHarmlessWords 41 = .ok (.aload_n 1, 1) := by decide +kernel
theorem dX3_mostHarmlessWords_42 : decode cX3_mostHarmlessWords 42 = .ok (.invokevirtual 18, 3) := by decide +kernel
theorem dX3_mostHarmlessWords_45 : decode cX3_mostHarmlessWords 45 = .ok (.aload_n 0, 1) := by decide +kernel
theorem dX3_mostHarmlessWords_46 : decode cX3_mostHarmlessWords 46 = .ok (.getfield 12, 3) := by decide +kernel
theorem dX3_mostHarmlessWords_49 : decode cX3_mostHarmlessWords 49 = .ok (.getfield 62, 3) := by decide +kernel
theorem dX3_mostHarmlessWords_52 : decode cX3_mostHarmlessWords 52 = .ok (.iload_n 2, 1) := by decide +kernel
theorem dX3_mostHarmlessWords_53 : decode cX3_mostHarmlessWords 53 = .ok (.iload 4, 2) := by decide +kernel
theorem dX3_mostHarmlessWords_55 : decode cX3_mostHarmlessWords 55 = .ok (.iload 6, 2) := by decide +kernel
theorem dX3_mostHarmlessWords_57 : decode cX3_mostHarmlessWords 57 = .ok (.invokestatic 72, 3) := by decide +kernel
theorem dX3_mostHarmlessWords_60 : decode cX3_mostHarmlessWords 60 = .ok (.iastore, 1) := by decide +kernel
theorem dX3_mostHarmlessWords_61 : decode cX3_mostHarmlessWords 61 = .ok (.aload_n 0, 1) := by decide +kernel
theorem dX3_mostHarmlessWords_62 : decode cX3_mostHarmlessWords 62 = .ok (.getfield 12, 3) := by decide +kernel
theorem dX3_mostHarmlessWords_65 : decode cX3_mostHarmlessWords 65 = .ok (.iload_n 3, 1) := by decide +kernel
theorem dX3_mostHarmlessWords_66 : decode cX3_mostHarmlessWords 66 = .ok (.invokevirtual 22, 3) := by decide +kernel
theorem dX3_mostHarmlessWords_69 : decode cX3_mostHarmlessWords 69 = .ok (.aload_n 0, 1) := by decide +kernel
theorem dX3_mostHarmlessWords_70 : decode cX3_mostHarmlessWords 70 = .ok (.getfield 12, 3) := by decide +kernel
theorem dX3_mostHarmlessWords_73 : decode cX3_mostHarmlessWords 73 = .ok (.iconst 5, 1) := by decide +kernel
theorem dX3_mostHarmlessWords_74 : decode cX3_mostHarmlessWords 74 = .ok (.invokevirtual 69, 3) := by decide +kernel
theorem dX3_mostHarmlessWords_77 : decode cX3_mostHarmlessWords 77 = .ok (.iload 5, 2) := by decide +kernel
theorem dX3_mostHarmlessWords_79 : decode cX3_mostHarmlessWords 79 = .ok (.if_icmp .ne 6, 3) := by decide +kernel
theorem dX3_mostHarmlessWords_82 : decode cX3_mostHarmlessWords 82 = .ok (.iload 6, 2) := by decide +kernel
theorem dX3_mostHarmlessWords_84 : decode cX3_mostHarmlessWords 84 = .ok (.ireturn, 1) := by decide +kernel
theorem dX3_mostHarmlessWords_85 : decode cX3_mostHarmlessWords 85 = .ok (.iinc 6 (-1), 3) := by decide +kernel
theorem dX3_mostHarmlessWords_88 : decode cX3_mostHarmlessWords 88 = .ok (.goto (-56), 3) := by decide +kernel
theorem dX3_mostHarmlessWords_91 : decode cX3_mostHarmlessWords 91 = .ok (.iconst (-1), 1) := by decide +kernel
theorem dX3_mostHarmlessWords_92 : decode cX3_mostHarmlessWords 92 = .ok (.ireturn, 1) := by decide +kernel
theorem dX3_staysQuiet_0 : decode cX3_staysQuiet 0 = .ok (.aload_n 0, 1) := by decide +kernel
theorem dX3_staysQuiet_1 : decode cX3_staysQuiet 1 = .ok (.getfield 12, 3) := by decide +kernel
theorem dX3_staysQuiet_4 : decode cX3_staysQuiet 4 = .ok (.getfield 43, 3) := by decide +kernel
theorem dX3_staysQuiet_7 : decode cX3_staysQuiet 7 = .ok (.istore_n 2, 1) := by decide +kernel
theorem dX3_staysQuiet_8 : decode cX3_staysQuiet 8 = .ok (.iconst 0, 1) := by decide +kernel
theorem dX3_staysQuiet_9 : decode cX3_staysQuiet 9 = .ok (.istore_n 3, 1) := by decide +kernel
theorem dX3_staysQuiet_10 : decode cX3_staysQuiet 10 = .ok (.iload_n 3, 1) := by decide +kernel
theorem dX3_staysQuiet_11 : decode cX3_staysQuiet 11 = .ok (.iload_n 1, 1) := by decide +kernel
theorem dX3_staysQuiet_12 : decode cX3_staysQuiet 12 = .ok (.if_icmp .ge 29, 3) := by decide +kernel
theorem dX3_staysQuiet_15 : decode cX3_staysQuiet 15 = .ok (.aload_n 0, 1) := by decide +kernel
theorem dX3_staysQuiet_16 : decode cX3_staysQuiet 16 = .ok (.getfield 12, 3) := by decide +kernel
theorem dX3_staysQuiet_19 : decode cX3_staysQuiet 19 = .ok (.invokevirtual 40, 3) := by decide +kernel
theorem dX3_staysQuiet_22 : decode cX3_staysQuiet 22 = .ok (.aload_n 0, 1) := by decide +kernel
theorem dX3_staysQuiet_23 : decode cX3_staysQuiet 23 = .ok (.getfield 12, 3) := by decide +kernel
theorem dX3_staysQuiet_26 : decode cX3_staysQuiet 26 = .ok (.getfield 43, 3) := by decide +kernel
theorem dX3_staysQuiet_29 : decode cX3_staysQuiet 29 = .ok (.iload_n 2, 1) := by decide +kernel
theorem dX3_staysQuiet_30 : decode cX3_staysQuiet 30 = .ok (.if_icmp .eq 5, 3) := by decide +kernel
theorem dX3_staysQuiet_33 : decode cX3_staysQuiet 33 = .ok (.iconst 0, 1) := by decide +kernel
theorem dX3_staysQuiet_34 : decode cX3_staysQuiet 34 = .ok (.ireturn, 1) := by decide +kernel
theorem dX3_staysQuiet_35 : decode cX3_staysQuiet 35 = .ok (.iinc 3 1, 3) := by decide +kernel
theorem dX3_staysQuiet_38 : decode cX3_staysQuiet 38 = .ok (.goto (-28), 3) := by decide +kernel
theorem dX3_staysQuiet_41 : decode cX3_staysQuiet 41 = .ok (.iconst 1, 1) := by decide +kernel
theorem dX3_staysQuiet_42 : decode cX3_staysQuiet 42 = .ok (.ireturn, 1) := by decide +kernel
theorem dX3_leastQuietWater_0 : decode cX3_leastQuietWater 0 = .ok (.iconst 0, 1) := by decide +kernel
theorem dX3_leastQuietWater_1 : decode cX3_leastQuietWater 1 = .ok (.istore_n 3, 1) := by decide +kernel
theorem dX3_leastQuietWater_2 : decode cX3_leastQuietWater 2 = .ok (.iload_n 3, 1) := by decide +kernel
theorem dX3_leastQuietWater_3 : decode cX3_leastQuietWater 3 = .ok (.bipush 9, 2) := by decide +kernel
theorem dX3_leastQuietWater_5 : decode cX3_leastQuietWater 5 = .ok (.if_icmp .gt 35, 3) := by decide +kernel
theorem dX3_leastQuietWater_8 : decode cX3_leastQuietWater 8 = .ok (.aload_n 0, 1) := by decide +kernel
theorem dX3_leastQuietWater_9 : decode cX3_leastQuietWater 9 = .ok (.getfield 12, 3) := by decide +kernel
theorem dX3_leastQuietWater_12 : decode cX3_leastQuietWater 12 = .ok (.aload_n 1, 1) := by decide +kernel
theorem dX3_leastQuietWater_13 : decode cX3_leastQuietWater 13 = .ok (.invokevirtual 18, 3) := by decide +kernel
theorem dX3_leastQuietWater_16 : decode cX3_leastQuietWater 16 = .ok (.aload_n 0, 1) := by decide +kernel
theorem dX3_leastQuietWater_17 : decode cX3_leastQuietWater 17 = .ok (.getfield 12, 3) := by decide +kernel
theorem dX3_leastQuietWater_20 : decode cX3_leastQuietWater 20 = .ok (.iload_n 3, 1) := by decide +kernel
theorem dX3_leastQuietWater_21 : decode cX3_leastQuietWater 21 = .ok (.putfield 76, 3) := by decide +kernel
theorem dX3_leastQuietWater_24 : decode cX3_leastQuietWater 24 = .ok (.aload_n 0, 1) := by decide +kernel
theorem dX3_leastQuietWater_25 : decode cX3_leastQuietWater 25 = .ok (.iload_n 2, 1) := by decide +kernel
theorem dX3_leastQuietWater_26 : decode cX3_leastQuietWater 26 = .ok (.invokevirtual 79, 3) := by decide +kernel
theorem dX3_leastQuietWater_29 : decode cX3_leastQuietWater 29 = .ok (.ifCond .eq 5, 3) := by decide +kernel
theorem dX3_leastQuietWater_32 : decode cX3_leastQuietWater 32 = .ok (.iload_n 3, 1) := by decide +kernel
theorem dX3_leastQuietWater_33 : decode cX3_leastQuietWater 33 = .ok (.ireturn, 1) := by decide +kernel
theorem dX3_leastQuietWater_34 : decode cX3_leastQuietWater 34 = .ok (.iinc 3 1, 3) := by decide +kernel
theorem dX3_leastQuietWater_37 : decode cX3_leastQuietWater 37 = .ok (.goto (-35), 3) := by decide +kernel
theorem dX3_leastQuietWater_40 : decode cX3_leastQuietWater 40 = .ok (.iconst (-1), 1) := by decide +kernel
theorem dX3_leastQuietWater_41 : decode cX3_leastQuietWater 41 = .ok (.ireturn, 1) := by decide +kernel
theorem dX3_sinToSpare_0 : decode cX3_sinToSpare 0 = .ok (.iconst 0, 1) := by decide +kernel
theorem dX3_sinToSpare_1 : decode cX3_sinToSpare 1 = .ok (.istore 4, 2) := by decide +kernel
theorem dX3_sinToSpare_3 : decode cX3_sinToSpare 3 = .ok (.sipush 1000, 3) := by decide +kernel
theorem dX3_sinToSpare_6 : decode cX3_sinToSpare 6 = .ok (.istore 5, 2) := by decide +kernel
theorem dX3_sinToSpare_8 : decode cX3_sinToSpare 8 = .ok (.iconst 0, 1) := by decide +kernel
theorem dX3_sinToSpare_9 : decode cX3_sinToSpare 9 = .ok (.istore 6, 2) := by decide +kernel
theorem dX3_sinToSpare_11 : decode cX3_sinToSpare 11 = .ok (.iload 6, 2) := by decide +kernel
theorem dX3_sinToSpare_13 : decode cX3_sinToSpare 13 = .ok (.bipush 8, 2) := by decide +kernel
theorem dX3_sinToSpare_15 : decode cX3_sinToSpare 15 = .ok (.if_icmp .ge 77, 3) := by decide +kernel
theorem dX3_sinToSpare_18 : decode cX3_sinToSpare 18 = .ok (.aload_n 0, 1) := by decide +kernel
theorem dX3_sinToSpare_19 : decode cX3_sinToSpare 19 = .ok (.getfield 12, 3) := by decide +kernel
theorem dX3_sinToSpare_22 : decode cX3_sinToSpare 22 = .ok (.aload_n 1, 1) := by decide +kernel
theorem dX3_sinToSpare_23 : decode cX3_sinToSpare 23 = .ok (.invokevirtual 18, 3) := by decide +kernel
theorem dX3_sinToSpare_26 : decode cX3_sinToSpare 26 = .ok (.aload_n 0, 1) := by decide +kernel
theorem dX3_sinToSpare_27 : decode cX3_sinToSpare 27 = .ok (.getfield 12, 3) := by decide +kernel
theorem dX3_sinToSpare_30 : decode cX3_sinToSpare 30 = .ok (.iload_n 2, 1) := by decide +kernel
theorem dX3_sinToSpare_31 : decode cX3_sinToSpare 31 = .ok (.invokevirtual 26, 3) := by decide +kernel
theorem dX3_sinToSpare_34 : decode cX3_sinToSpare 34 = .ok (.astore 7, 2) := by decide +kernel
theorem dX3_sinToSpare_36 : decode cX3_sinToSpare 36 = .ok (.aload 7, 2) := by decide +kernel
theorem dX3_sinToSpare_38 : decode cX3_sinToSpare 38 = .ok (.ifnull 48, 3) := by decide +kernel
theorem dX3_sinToSpare_41 : decode cX3_sinToSpare 41 = .ok (.aload 7, 2) := by decide +kernel
theorem dX3_sinToSpare_43 : decode cX3_sinToSpare 43 = .ok (.dup, 1) := by decide +kernel
theorem dX3_sinToSpare_44 : decode cX3_sinToSpare 44 = .ok (.getfield 83, 3) := by decide +kernel
theorem dX3_sinToSpare_47 : decode cX3_sinToSpare 47 = .ok (.iconst 1, 1) := by decide +kernel
theorem dX3_sinToSpare_48 : decode cX3_sinToSpare 48 = .ok (.iload 6, 2) := by decide +kernel
theorem dX3_sinToSpare_50 : decode cX3_sinToSpare 50 = .ok (.ishl, 1) := by decide +kernel
theorem dX3_sinToSpare_51 : decode cX3_sinToSpare 51 = .ok (.iconst (-1), 1) := by decide +kernel
theorem dX3_sinToSpare_52 : decode cX3_sinToSpare 52 = .ok (.ixor, 1) := by decide +kernel
theorem dX3_sinToSpare_53 : decode cX3_sinToSpare 53 = .ok (.iand, 1) := by decide +kernel
theorem dX3_sinToSpare_54 : decode cX3_sinToSpare 54 = .ok (.putfield 83, 3) := by decide +kernel
theorem dX3_sinToSpare_57 : decode cX3_sinToSpare 57 = .ok (.aload_n 0, 1) := by decide +kernel
theorem dX3_sinToSpare_58 : decode cX3_sinToSpare 58 = .ok (.getfield 12, 3) := by decide +kernel
theorem dX3_sinToSpare_61 : decode cX3_sinToSpare 61 = .ok (.iload_n 3, 1) := by decide +kernel
theorem dX3_sinToSpare_62 : decode cX3_sinToSpare 62 = .ok (.invokevirtual 22, 3) := by decide +kernel
theorem dX3_sinToSpare_65 : decode cX3_sinToSpare 65 = .ok (.aload 7, 2) := by decide +kernel
theorem dX3_sinToSpare_67 : decode cX3_sinToSpare 67 = .ok (.getfield 55, 3) := by decide +kernel
theorem dX3_sinToSpare_70 : decode cX3_sinToSpare 70 = .ok (.iload 5, 2) := by decide +kernel
theorem dX3_sinToSpare_72 : decode cX3_sinToSpare 72 = .ok (.if_icmp .ge 14, 3) := by decide +kernel
theorem dX3_sinToSpare_75 : decode cX3_sinToSpare 75 = .ok (.iload 6, 2) := by decide +kernel
theorem dX3_sinToSpare_77 : decode cX3_sinToSpare 77 = .ok (.istore 4, 2) := by decide +kernel
theorem dX3_sinToSpare_79 : decode cX3_sinToSpare 79 = .ok (.aload 7, 2) := by decide +kernel
theorem dX3_sinToSpare_81 : decode cX3_sinToSpare 81 = .ok (.getfield 55, 3) := by decide +kernel
theorem dX3_sinToSpare_84 : decode cX3_sinToSpare 84 = .ok (.istore 5, 2) := by decide +kernel
theorem dX3_sinToSpare_86 : decode cX3_sinToSpare 86 = .ok (.iinc 6 1, 3) := by decide +kernel
theorem dX3_sinToSpare_89 : decode cX3_sinToSpare 89 = .ok (.goto (-78), 3) := by decide +kernel
theorem dX3_sinToSpare_92 : decode cX3_sinToSpare 92 = .ok (.iload 4, 2) := by decide +kernel
theorem dX3_sinToSpare_94 : decode cX3_sinToSpare 94 = .ok (.ireturn, 1) := by decide +kernel
theorem dX3_healthiestKind_0 : decode cX3_healthiestKind 0 = .ok (.iconst 0, 1) := by decide +kernel
theorem dX3_healthiestKind_1 : decode cX3_healthiestKind 1 = .ok (.istore 4, 2) := by decide +kernel
theorem dX3_healthiestKind_3 : decode cX3_healthiestKind 3 = .ok (.ldc 86, 2) := by decide +kernel
theorem dX3_healthiestKind_5 : decode cX3_healthiestKind 5 = .ok (.istore 5, 2) := by decide +kernel
theorem dX3_healthiestKind_7 : decode cX3_healthiestKind 7 = .ok (.iconst 0, 1) := by decide +kernel
theorem dX3_healthiestKind_8 : decode cX3_healthiestKind 8 = .ok (.istore 6, 2) := by decide +kernel
theorem dX3_healthiestKind_10 : decode cX3_healthiestKind 10 = .ok (.iload 6, 2) := by decide +kernel
theorem dX3_healthiestKind_12 : decode cX3_healthiestKind 12 = .ok (.bipush 7, 2) := by decide +kernel
theorem dX3_healthiestKind_14 : decode cX3_healthiestKind 14 = .ok (.if_icmp .ge 72, 3) := by decide +kernel
theorem dX3_healthiestKind_17 : decode cX3_healthiestKind 17 = .ok (.aload_n 0, 1) := by decide +kernel
theorem dX3_healthiestKind_18 : decode cX3_healthiestKind 18 = .ok (.getfield 12, 3) := by decide +kernel
theorem dX3_healthiestKind_21 : decode cX3_healthiestKind 21 = .ok (.aload_n 1, 1) := by decide +kernel
theorem dX3_healthiestKind_22 : decode cX3_healthiestKind 22 = .ok (.invokevirtual 18, 3) := by decide +kernel
theorem dX3_healthiestKind_25 : decode cX3_healthiestKind 25 = .ok (.aload_n 0, 1) := by decide +kernel
theorem dX3_healthiestKind_26 : decode cX3_healthiestKind 26 = .ok (.getfield 12, 3) := by decide +kernel
theorem dX3_healthiestKind_29 : decode cX3_healthiestKind 29 = .ok (.iload_n 2, 1) := by decide +kernel
theorem dX3_healthiestKind_30 : decode cX3_healthiestKind 30 = .ok (.invokevirtual 26, 3) := by decide +kernel
theorem dX3_healthiestKind_33 : decode cX3_healthiestKind 33 = .ok (.astore 7, 2) := by decide +kernel
theorem dX3_healthiestKind_35 : decode cX3_healthiestKind 35 = .ok (.aload 7, 2) := by decide +kernel
theorem dX3_healthiestKind_37 : decode cX3_healthiestKind 37 = .ok (.ifnull 43, 3) := by decide +kernel
theorem dX3_healthiestKind_40 : decode cX3_healthiestKind 40 = .ok (.aload 7, 2) := by decide +kernel
theorem dX3_healthiestKind_42 : decode cX3_healthiestKind 42 = .ok (.iload 6, 2) := by decide +kernel
theorem dX3_healthiestKind_44 : decode cX3_healthiestKind 44 = .ok (.putfield 87, 3) := by decide +kernel
theorem dX3_healthiestKind_47 : decode cX3_healthiestKind 47 = .ok (.aload_n 0, 1) := by decide +kernel
theorem dX3_healthiestKind_48 : decode cX3_healthiestKind 48 = .ok (.getfield 12, 3) := by decide +kernel
theorem dX3_healthiestKind_51 : decode cX3_healthiestKind 51 = .ok (.iload_n 3, 1) := by decide +kernel
theorem dX3_healthiestKind_52 : decode cX3_healthiestKind 52 = .ok (.invokevirtual 22, 3) := by decide +kernel
theorem dX3_healthiestKind_55 : decode cX3_healthiestKind 55 = .ok (.aload_n 0, 1) := by decide +kernel
theorem dX3_healthiestKind_56 : decode cX3_healthiestKind 56 = .ok (.getfield 12, 3) := by decide +kernel
theorem dX3_healthiestKind_59 : decode cX3_healthiestKind 59 = .ok (.iconst 5, 1) := by decide +kernel
theorem dX3_healthiestKind_60 : decode cX3_healthiestKind 60 = .ok (.invokevirtual 69, 3) := by decide +kernel
theorem dX3_healthiestKind_63 : decode cX3_healthiestKind 63 = .ok (.istore 8, 2) := by decide +kernel
theorem dX3_healthiestKind_65 : decode cX3_healthiestKind 65 = .ok (.iload 8, 2) := by decide +kernel
theorem dX3_healthiestKind_67 : decode cX3_healthiestKind 67 = .ok (.iload 5, 2) := by decide +kernel
theorem dX3_healthiestKind_69 : decode cX3_healthiestKind 69 = .ok (.if_icmp .ge 11, 3) := by decide +kernel
theorem dX3_healthiestKind_72 : decode cX3_healthiestKind 72 = .ok (.iload 6, 2) := by decide +kernel
theorem dX3_healthiestKind_74 : decode cX3_healthiestKind 74 = .ok (.istore 4, 2) := by decide +kernel
theorem dX3_healthiestKind_76 : decode cX3_healthiestKind 76 = .ok (.iload 8, 2) := by decide +kernel
theorem dX3_healthiestKind_78 : decode cX3_healthiestKind 78 = .ok (.istore 5, 2) := by decide +kernel
theorem dX3_healthiestKind_80 : decode cX3_healthiestKind 80 = .ok (.iinc 6 1, 3) := by decide +kernel
theorem dX3_healthiestKind_83 : decode cX3_healthiestKind 83 = .ok (.goto (-73), 3) := by decide +kernel
theorem dX3_healthiestKind_86 : decode cX3_healthiestKind 86 = .ok (.iload 4, 2) := by decide +kernel
theorem dX3_healthiestKind_88 : decode cX3_healthiestKind 88 = .ok (.ireturn, 1) := by decide +kernel
theorem dX3_makeFast_0 : decode cX3_makeFast 0 = .ok (.iconst 0, 1) := by decide +kernel
theorem dX3_makeFast_1 : decode cX3_makeFast 1 = .ok (.istore_n 2, 1) := by decide +kernel
theorem dX3_makeFast_2 : decode cX3_makeFast 2 = .ok (.iload_n 2, 1) := by decide +kernel
theorem dX3_makeFast_3 : decode cX3_makeFast 3 = .ok (.aload_n 0, 1) := by decide +kernel
theorem dX3_makeFast_4 : decode cX3_makeFast 4 = .ok (.getfield 12, 3) := by decide +kernel
theorem dX3_makeFast_7 : decode cX3_makeFast 7 = .ok (.getfield 90, 3) := by decide +kernel
theorem dX3_makeFast_10 : decode cX3_makeFast 10 = .ok (.if_icmp .ge 35, 3) := by decide +kernel
theorem dX3_makeFast_13 : decode cX3_makeFast 13 = .ok (.aload_n 0, 1) := by decide +kernel
theorem dX3_makeFast_14 : decode cX3_makeFast 14 = .ok (.getfield 12, 3) := by decide +kernel
theorem dX3_makeFast_17 : decode cX3_makeFast 17 = .ok (.iload_n 2, 1) := by decide +kernel
theorem dX3_makeFast_18 : decode cX3_makeFast 18 = .ok (.invokevirtual 26, 3) := by decide +kernel
theorem dX3_makeFast_21 : decode cX3_makeFast 21 = .ok (.astore_n 3, 1) := by decide +kernel
theorem dX3_makeFast_22 : decode cX3_makeFast 22 = .ok (.aload_n 3, 1) := by decide +kernel
theorem dX3_makeFast_23 : decode cX3_makeFast 23 = .ok (.ifnull 16, 3) := by decide +kernel
theorem dX3_makeFast_26 : decode cX3_makeFast 26 = .ok (.iload_n 1, 1) := by decide +kernel
theorem dX3_makeFast_27 : decode cX3_makeFast 27 = .ok (.iload_n 2, 1) := by decide +kernel
end
section
theorem dX3_makeFast_28 : decode cX3_makeFast 28 = .ok (.ishr, 1) := by decide +kernel
theorem dX3_makeFast_29 : decode cX3_makeFast 29 = .ok (.iconst 1, 1) := by decide +kernel
theorem dX3_makeFast_30 : decode cX3_makeFast 30 = .ok (.iand, 1) := by decide +kernel
theorem dX3_makeFast_31 : decode cX3_makeFast 31 = .ok (.ifCond .eq 8, 3) := by decide +kernel
theorem dX3_makeFast_34 : decode cX3_makeFast 34 = .ok (.aload_n 3, 1) := by decide +kernel
theorem dX3_makeFast_35 : decode cX3_makeFast 35 = .ok (.iconst 0, 1) := by decide +kernel
theorem dX3_makeFast_36 : decode cX3_makeFast 36 = .ok (.putfield 83, 3) := by decide +kernel
theorem dX3_makeFast_39 : decode cX3_makeFast 39 = .ok (.iinc 2 1, 3) := by decide +kernel
theorem dX3_makeFast_42 : decode cX3_makeFast 42 = .ok (.goto (-40), 3) := by decide +kernel
theorem dX3_makeFast_45 : decode cX3_makeFast 45 = .ok (.return_, 1) := by decide +kernel
theorem dX3_fewestFasting_0 : decode cX3_fewestFasting 0 = .ok (.iconst 0, 1) := by decide +kernel
theorem dX3_fewestFasting_1 : decode cX3_fewestFasting 1 = .ok (.istore_n 3, 1) := by decide +kernel
theorem dX3_fewestFasting_2 : decode cX3_fewestFasting 2 = .ok (.iload_n 3, 1) := by decide +kernel
theorem dX3_fewestFasting_3 : decode cX3_fewestFasting 3 = .ok (.aload_n 1, 1) := by decide +kernel
theorem dX3_fewestFasting_4 : decode cX3_fewestFasting 4 = .ok (.getfield 90, 3) := by decide +kernel
theorem dX3_fewestFasting_7 : decode cX3_fewestFasting 7 = .ok (.if_icmp .gt 63, 3) := by decide +kernel
theorem dX3_fewestFasting_10 : decode cX3_fewestFasting 10 = .ok (.iconst 0, 1) := by decide +kernel
theorem dX3_fewestFasting_11 : decode cX3_fewestFasting 11 = .ok (.istore 4, 2) := by decide +kernel
theorem dX3_fewestFasting_13 : decode cX3_fewestFasting 13 = .ok (.iload 4, 2) := by decide +kernel
theorem dX3_fewestFasting_15 : decode cX3_fewestFasting 15 = .ok (.iconst 1, 1) := by decide +kernel
theorem dX3_fewestFasting_16 : decode cX3_fewestFasting 16 = .ok (.aload_n 1, 1) := by decide +kernel
theorem dX3_fewestFasting_17 : decode cX3_fewestFasting 17 = .ok (.getfield 90, 3) := by decide +kernel
theorem dX3_fewestFasting_20 : decode cX3_fewestFasting 20 = .ok (.ishl, 1) := by decide +kernel
theorem dX3_fewestFasting_21 : decode cX3_fewestFasting 21 = .ok (.if_icmp .ge 43, 3) := by decide +kernel
theorem dX3_fewestFasting_24 : decode cX3_fewestFasting 24 = .ok (.iload 4, 2) := by decide +kernel
theorem dX3_fewestFasting_26 : decode cX3_fewestFasting 26 = .ok (.invokestatic 49, 3) := by decide +kernel
theorem dX3_fewestFasting_29 : decode cX3_fewestFasting 29 = .ok (.iload_n 3, 1) := by decide +kernel
theorem dX3_fewestFasting_30 : decode cX3_fewestFasting 30 = .ok (.if_icmp .ne 28, 3) := by decide +kernel
theorem dX3_fewestFasting_33 : decode cX3_fewestFasting 33 = .ok (.aload_n 0, 1) := by decide +kernel
theorem dX3_fewestFasting_34 : decode cX3_fewestFasting 34 = .ok (.getfield 12, 3) := by decide +kernel
theorem dX3_fewestFasting_37 : decode cX3_fewestFasting 37 = .ok (.aload_n 1, 1) := by decide +kernel
theorem dX3_fewestFasting_38 : decode cX3_fewestFasting 38 = .ok (.invokevirtual 18, 3) := by decide +kernel
theorem dX3_fewestFasting_41 : decode cX3_fewestFasting 41 = .ok (.aload_n 0, 1) := by decide +kernel
theorem dX3_fewestFasting_42 : decode cX3_fewestFasting 42 = .ok (.iload 4, 2) := by decide +kernel
theorem dX3_fewestFasting_44 : decode cX3_fewestFasting 44 = .ok (.invokevirtual 93, 3) := by decide +kernel
theorem dX3_fewestFasting_47 : decode cX3_fewestFasting 47 = .ok (.aload_n 0, 1) := by decide +kernel
theorem dX3_fewestFasting_48 : decode cX3_fewestFasting 48 = .ok (.iload_n 2, 1) := by decide +kernel
theorem dX3_fewestFasting_49 : decode cX3_fewestFasting 49 = .ok (.invokevirtual 79, 3) := by decide +kernel
theorem dX3_fewestFasting_52 : decode cX3_fewestFasting 52 = .ok (.ifCond .eq 6, 3) := by decide +kernel
theorem dX3_fewestFasting_55 : decode cX3_fewestFasting 55 = .ok (.iload 4, 2) := by decide +kernel
theorem dX3_fewestFasting_57 : decode cX3_fewestFasting 57 = .ok (.ireturn, 1) := by decide +kernel
theorem dX3_fewestFasting_58 : decode cX3_fewestFasting 58 = .ok (.iinc 4 1, 3) := by decide +kernel
theorem dX3_fewestFasting_61 : decode cX3_fewestFasting 61 = .ok (.goto (-48), 3) := by decide +kernel
theorem dX3_fewestFasting_64 : decode cX3_fewestFasting 64 = .ok (.iinc 3 1, 3) := by decide +kernel
theorem dX3_fewestFasting_67 : decode cX3_fewestFasting 67 = .ok (.goto (-65), 3) := by decide +kernel
theorem dX3_fewestFasting_70 : decode cX3_fewestFasting 70 = .ok (.iconst (-1), 1) := by decide +kernel
theorem dX3_fewestFasting_71 : decode cX3_fewestFasting 71 = .ok (.ireturn, 1) := by decide +kernel
theorem dX3_dreamsAsTold_0 : decode cX3_dreamsAsTold 0 = .ok (.aload_n 0, 1) := by decide +kernel
theorem dX3_dreamsAsTold_1 : decode cX3_dreamsAsTold 1 = .ok (.getfield 12, 3) := by decide +kernel
theorem dX3_dreamsAsTold_4 : decode cX3_dreamsAsTold 4 = .ok (.iload_n 1, 1) := by decide +kernel
theorem dX3_dreamsAsTold_5 : decode cX3_dreamsAsTold 5 = .ok (.invokevirtual 26, 3) := by decide +kernel
theorem dX3_dreamsAsTold_8 : decode cX3_dreamsAsTold 8 = .ok (.astore_n 3, 1) := by decide +kernel
theorem dX3_dreamsAsTold_9 : decode cX3_dreamsAsTold 9 = .ok (.iconst 0, 1) := by decide +kernel
theorem dX3_dreamsAsTold_10 : decode cX3_dreamsAsTold 10 = .ok (.istore 4, 2) := by decide +kernel
theorem dX3_dreamsAsTold_12 : decode cX3_dreamsAsTold 12 = .ok (.aload_n 3, 1) := by decide +kernel
theorem dX3_dreamsAsTold_13 : decode cX3_dreamsAsTold 13 = .ok (.ifnull 60, 3) := by decide +kernel
theorem dX3_dreamsAsTold_16 : decode cX3_dreamsAsTold 16 = .ok (.aload_n 2, 1) := by decide +kernel
theorem dX3_dreamsAsTold_17 : decode cX3_dreamsAsTold 17 = .ok (.ifnull 56, 3) := by decide +kernel
theorem dX3_dreamsAsTold_20 : decode cX3_dreamsAsTold 20 = .ok (.iload 4, 2) := by decide +kernel
theorem dX3_dreamsAsTold_22 : decode cX3_dreamsAsTold 22 = .ok (.aload_n 2, 1) := by decide +kernel
theorem dX3_dreamsAsTold_23 : decode cX3_dreamsAsTold 23 = .ok (.getfield 96, 3) := by decide +kernel
theorem dX3_dreamsAsTold_26 : decode cX3_dreamsAsTold 26 = .ok (.if_icmp .ge 47, 3) := by decide +kernel
theorem dX3_dreamsAsTold_29 : decode cX3_dreamsAsTold 29 = .ok (.iload 4, 2) := by decide +kernel
theorem dX3_dreamsAsTold_31 : decode cX3_dreamsAsTold 31 = .ok (.ifCond .le 10, 3) := by decide +kernel
theorem dX3_dreamsAsTold_34 : decode cX3_dreamsAsTold 34 = .ok (.aload_n 0, 1) := by decide +kernel
theorem dX3_dreamsAsTold_35 : decode cX3_dreamsAsTold 35 = .ok (.getfield 12, 3) := by decide +kernel
theorem dX3_dreamsAsTold_38 : decode cX3_dreamsAsTold 38 = .ok (.invokevirtual 40, 3) := by decide +kernel
theorem dX3_dreamsAsTold_41 : decode cX3_dreamsAsTold 41 = .ok (.aload_n 2, 1) := by decide +kernel
theorem dX3_dreamsAsTold_42 : decode cX3_dreamsAsTold 42 = .ok (.getfield 101, 3) := by decide +kernel
theorem dX3_dreamsAsTold_45 : decode cX3_dreamsAsTold 45 = .ok (.iload 4, 2) := by decide +kernel
theorem dX3_dreamsAsTold_47 : decode cX3_dreamsAsTold 47 = .ok (.iaload, 1) := by decide +kernel
theorem dX3_dreamsAsTold_48 : decode cX3_dreamsAsTold 48 = .ok (.istore 5, 2) := by decide +kernel
theorem dX3_dreamsAsTold_50 : decode cX3_dreamsAsTold 50 = .ok (.iload 5, 2) := by decide +kernel
theorem dX3_dreamsAsTold_52 : decode cX3_dreamsAsTold 52 = .ok (.iconst (-1), 1) := by decide +kernel
theorem dX3_dreamsAsTold_53 : decode cX3_dreamsAsTold 53 = .ok (.if_icmp .eq 14, 3) := by decide +kernel
theorem dX3_dreamsAsTold_56 : decode cX3_dreamsAsTold 56 = .ok (.iload 5, 2) := by decide +kernel
theorem dX3_dreamsAsTold_58 : decode cX3_dreamsAsTold 58 = .ok (.aload_n 3, 1) := by decide +kernel
theorem dX3_dreamsAsTold_59 : decode cX3_dreamsAsTold 59 = .ok (.getfield 55, 3) := by decide +kernel
theorem dX3_dreamsAsTold_62 : decode cX3_dreamsAsTold 62 = .ok (.if_icmp .eq 5, 3) := by decide +kernel
theorem dX3_dreamsAsTold_65 : decode cX3_dreamsAsTold 65 = .ok (.iconst 0, 1) := by decide +kernel
theorem dX3_dreamsAsTold_66 : decode cX3_dreamsAsTold 66 = .ok (.ireturn, 1) := by decide +kernel
theorem dX3_dreamsAsTold_67 : decode cX3_dreamsAsTold 67 = .ok (.iinc 4 1, 3) := by decide +kernel
theorem dX3_dreamsAsTold_70 : decode cX3_dreamsAsTold 70 = .ok (.goto (-58), 3) := by decide +kernel
theorem dX3_dreamsAsTold_73 : decode cX3_dreamsAsTold 73 = .ok (.iconst 1, 1) := by decide +kernel
theorem dX3_dreamsAsTold_74 : decode cX3_dreamsAsTold 74 = .ok (.ireturn, 1) := by decide +kernel
theorem dX3_fittingWords_0 : decode cX3_fittingWords 0 = .ok (.lconst 0, 1) := by decide +kernel
theorem dX3_fittingWords_1 : decode cX3_fittingWords 1 = .ok (.lstore 4, 2) := by decide +kernel
theorem dX3_fittingWords_3 : decode cX3_fittingWords 3 = .ok (.aload_n 1, 1) := by decide +kernel
theorem dX3_fittingWords_4 : decode cX3_fittingWords 4 = .ok (.invokevirtual 104, 3) := by decide +kernel
theorem dX3_fittingWords_7 : decode cX3_fittingWords 7 = .ok (.istore 6, 2) := by decide +kernel
theorem dX3_fittingWords_9 : decode cX3_fittingWords 9 = .ok (.aload_n 1, 1) := by decide +kernel
theorem dX3_fittingWords_10 : decode cX3_fittingWords 10 = .ok (.getfield 62, 3) := by decide +kernel
theorem dX3_fittingWords_13 : decode cX3_fittingWords 13 = .ok (.iload 6, 2) := by decide +kernel
theorem dX3_fittingWords_15 : decode cX3_fittingWords 15 = .ok (.iaload, 1) := by decide +kernel
theorem dX3_fittingWords_16 : decode cX3_fittingWords 16 = .ok (.invokestatic 66, 3) := by decide +kernel
theorem dX3_fittingWords_19 : decode cX3_fittingWords 19 = .ok (.istore 7, 2) := by decide +kernel
theorem dX3_fittingWords_21 : decode cX3_fittingWords 21 = .ok (.iconst 0, 1) := by decide +kernel
theorem dX3_fittingWords_22 : decode cX3_fittingWords 22 = .ok (.istore 8, 2) := by decide +kernel
theorem dX3_fittingWords_24 : decode cX3_fittingWords 24 = .ok (.iload 8, 2) := by decide +kernel
theorem dX3_fittingWords_26 : decode cX3_fittingWords 26 = .ok (.bipush 40, 2) := by decide +kernel
theorem dX3_fittingWords_28 : decode cX3_fittingWords 28 = .ok (.if_icmp .gt 52, 3) := by decide +kernel
theorem dX3_fittingWords_31 : decode cX3_fittingWords 31 = .ok (.aload_n 0, 1) := by decide +kernel
theorem dX3_fittingWords_32 : decode cX3_fittingWords 32 = .ok (.getfield 12, 3) := by decide +kernel
theorem dX3_fittingWords_35 : decode cX3_fittingWords 35 = .ok (.aload_n 1, 1) := by decide +kernel
theorem dX3_fittingWords_36 : decode cX3_fittingWords 36 = .ok (.invokevirtual 18, 3) := by decide +kernel
theorem dX3_fittingWords_39 : decode cX3_fittingWords 39 = .ok (.aload_n 0, 1) := by decide +kernel
theorem dX3_fittingWords_40 : decode cX3_fittingWords 40 = .ok (.getfield 12, 3) := by decide +kernel
theorem dX3_fittingWords_43 : decode cX3_fittingWords 43 = .ok (.getfield 62, 3) := by decide +kernel
theorem dX3_fittingWords_46 : decode cX3_fittingWords 46 = .ok (.iload 6, 2) := by decide +kernel
theorem dX3_fittingWords_48 : decode cX3_fittingWords 48 = .ok (.iload 7, 2) := by decide +kernel
theorem dX3_fittingWords_50 : decode cX3_fittingWords 50 = .ok (.iload 8, 2) := by decide +kernel
theorem dX3_fittingWords_52 : decode cX3_fittingWords 52 = .ok (.invokestatic 72, 3) := by decide +kernel
theorem dX3_fittingWords_55 : decode cX3_fittingWords 55 = .ok (.iastore, 1) := by decide +kernel
theorem dX3_fittingWords_56 : decode cX3_fittingWords 56 = .ok (.aload_n 0, 1) := by decide +kernel
theorem dX3_fittingWords_57 : decode cX3_fittingWords 57 = .ok (.iload_n 2, 1) := by decide +kernel
theorem dX3_fittingWords_58 : decode cX3_fittingWords 58 = .ok (.aload_n 3, 1) := by decide +kernel
theorem dX3_fittingWords_59 : decode cX3_fittingWords 59 = .ok (.invokevirtual 108, 3) := by decide +kernel
theorem dX3_fittingWords_62 : decode cX3_fittingWords 62 = .ok (.ifCond .eq 12, 3) := by decide +kernel
theorem dX3_fittingWords_65 : decode cX3_fittingWords 65 = .ok (.lload 4, 2) := by decide +kernel
theorem dX3_fittingWords_67 : decode cX3_fittingWords 67 = .ok (.lconst 1, 1) := by decide +kernel
theorem dX3_fittingWords_68 : decode cX3_fittingWords 68 = .ok (.iload 8, 2) := by decide +kernel
theorem dX3_fittingWords_70 : decode cX3_fittingWords 70 = .ok (.lshl, 1) := by decide +kernel
theorem dX3_fittingWords_71 : decode cX3_fittingWords 71 = .ok (.lor, 1) := by decide +kernel
theorem dX3_fittingWords_72 : decode cX3_fittingWords 72 = .ok (.lstore 4, 2) := by decide +kernel
theorem dX3_fittingWords_74 : decode cX3_fittingWords 74 = .ok (.iinc 8 1, 3) := by decide +kernel
theorem dX3_fittingWords_77 : decode cX3_fittingWords 77 = .ok (.goto (-53), 3) := by decide +kernel
theorem dX3_fittingWords_80 : decode cX3_fittingWords 80 = .ok (.lload 4, 2) := by decide +kernel
theorem dX3_fittingWords_82 : decode cX3_fittingWords 82 = .ok (.lreturn, 1) := by decide +kernel
theorem dX3_fittingKinds_0 : decode cX3_fittingKinds 0 = .ok (.iconst 0, 1) := by decide +kernel
theorem dX3_fittingKinds_1 : decode cX3_fittingKinds 1 = .ok (.istore 4, 2) := by decide +kernel
theorem dX3_fittingKinds_3 : decode cX3_fittingKinds 3 = .ok (.iconst 0, 1) := by decide +kernel
theorem dX3_fittingKinds_4 : decode cX3_fittingKinds 4 = .ok (.istore 5, 2) := by decide +kernel
theorem dX3_fittingKinds_6 : decode cX3_fittingKinds 6 = .ok (.iload 5, 2) := by decide +kernel
theorem dX3_fittingKinds_8 : decode cX3_fittingKinds 8 = .ok (.bipush 7, 2) := by decide +kernel
theorem dX3_fittingKinds_10 : decode cX3_fittingKinds 10 = .ok (.if_icmp .ge 57, 3) := by decide +kernel
theorem dX3_fittingKinds_13 : decode cX3_fittingKinds 13 = .ok (.aload_n 0, 1) := by decide +kernel
theorem dX3_fittingKinds_14 : decode cX3_fittingKinds 14 = .ok (.getfield 12, 3) := by decide +kernel
theorem dX3_fittingKinds_17 : decode cX3_fittingKinds 17 = .ok (.aload_n 1, 1) := by decide +kernel
theorem dX3_fittingKinds_18 : decode cX3_fittingKinds 18 = .ok (.invokevirtual 18, 3) := by decide +kernel
theorem dX3_fittingKinds_21 : decode cX3_fittingKinds 21 = .ok (.aload_n 0, 1) := by decide +kernel
theorem dX3_fittingKinds_22 : decode cX3_fittingKinds 22 = .ok (.getfield 12, 3) := by decide +kernel
theorem dX3_fittingKinds_25 : decode cX3_fittingKinds 25 = .ok (.iload_n 2, 1) := by decide +kernel
theorem dX3_fittingKinds_26 : decode cX3_fittingKinds 26 = .ok (.invokevirtual 26, 3) := by decide +kernel
theorem dX3_fittingKinds_29 : decode cX3_fittingKinds 29 = .ok (.astore 6, 2) := by decide +kernel
theorem dX3_fittingKinds_31 : decode cX3_fittingKinds 31 = .ok (.aload 6, 2) := by decide +kernel
theorem dX3_fittingKinds_33 : decode cX3_fittingKinds 33 = .ok (.ifnull 28, 3) := by decide +kernel
theorem dX3_fittingKinds_36 : decode cX3_fittingKinds 36 = .ok (.aload 6, 2) := by decide +kernel
theorem dX3_fittingKinds_38 : decode cX3_fittingKinds 38 = .ok (.iload 5, 2) := by decide +kernel
theorem dX3_fittingKinds_40 : decode cX3_fittingKinds 40 = .ok (.putfield 87, 3) := by decide +kernel
theorem dX3_fittingKinds_43 : decode cX3_fittingKinds 43 = .ok (.aload_n 0, 1) := by decide +kernel
theorem dX3_fittingKinds_44 : decode cX3_fittingKinds 44 = .ok (.iload_n 2, 1) := by decide +kernel
theorem dX3_fittingKinds_45 : decode cX3_fittingKinds 45 = .ok (.aload_n 3, 1) := by decide +kernel
theorem dX3_fittingKinds_46 : decode cX3_fittingKinds 46 = .ok (.invokevirtual 108, 3) := by decide +kernel
theorem dX3_fittingKinds_49 : decode cX3_fittingKinds 49 = .ok (.ifCond .eq 12, 3) := by decide +kernel
theorem dX3_fittingKinds_52 : decode cX3_fittingKinds 52 = .ok (.iload 4, 2) := by decide +kernel
theorem dX3_fittingKinds_54 : decode cX3_fittingKinds 54 = .ok (.iconst 1, 1) := by decide +kernel
theorem dX3_fittingKinds_55 : decode cX3_fittingKinds 55 = .ok (.iload 5, 2) := by decide +kernel
theorem dX3_fittingKinds_57 : decode cX3_fittingKinds 57 = .ok (.ishl, 1) := by decide +kernel
theorem dX3_fittingKinds_58 : decode cX3_fittingKinds 58 = .ok (.ior, 1) := by decide +kernel
theorem dX3_fittingKinds_59 : decode cX3_fittingKinds 59 = .ok (.istore 4, 2) := by decide +kernel
theorem dX3_fittingKinds_61 : decode cX3_fittingKinds 61 = .ok (.iinc 5 1, 3) := by decide +kernel
theorem dX3_fittingKinds_64 : decode cX3_fittingKinds 64 = .ok (.goto (-58), 3) := by decide +kernel
theorem dX3_fittingKinds_67 : decode cX3_fittingKinds 67 = .ok (.iload 4, 2) := by decide +kernel
theorem dX3_fittingKinds_69 : decode cX3_fittingKinds 69 = .ok (.ireturn, 1) := by decide +kernel
theorem dX4_init_0 : decode cX4_init 0 = .ok (.aload_n 0, 1) := by decide +kernel
theorem dX4_init_1 : decode cX4_init 1 = .ok (.invokespecial 3, 3) := by decide +kernel
theorem dX4_init_4 : decode cX4_init 4 = .ok (.aload_n 0, 1) := by decide +kernel
theorem dX4_init_5 : decode cX4_init 5 = .ok (.iconst 0, 1) := by decide +kernel
theorem dX4_init_6 : decode cX4_init 6 = .ok (.putfield 9, 3) := by decide +kernel
theorem dX4_init_9 : decode cX4_init 9 = .ok (.aload_n 0, 1) := by decide +kernel
theorem dX4_init_10 : decode cX4_init 10 = .ok (.iconst 0, 1) := by decide +kernel
theorem dX4_init_11 : decode cX4_init 11 = .ok (.putfield 15, 3) := by decide +kernel
theorem dX4_init_14 : decode cX4_init 14 = .ok (.aload_n 0, 1) := by decide +kernel
theorem dX4_init_15 : decode cX4_init 15 = .ok (.bipush 40, 2) := by decide +kernel
theorem dX4_init_17 : decode cX4_init 17 = .ok (.newarray .int, 2) := by decide +kernel
theorem dX4_init_19 : decode cX4_init 19 = .ok (.putfield 18, 3) := by decide +kernel
theorem dX4_init_22 : decode cX4_init 22 = .ok (.return_, 1) := by decide +kernel
theorem dX4_mayHaveBits_0 : decode cX4_mayHaveBits 0 = .ok (.iload_n 0, 1) := by decide +kernel
theorem dX4_mayHaveBits_1 : decode cX4_mayHaveBits 1 = .ok (.ifCond .eq 21, 3) := by decide +kernel
theorem dX4_mayHaveBits_4 : decode cX4_mayHaveBits 4 = .ok (.iload_n 0, 1) := by decide +kernel
theorem dX4_mayHaveBits_5 : decode cX4_mayHaveBits 5 = .ok (.bipush 8, 2) := by decide +kernel
theorem dX4_mayHaveBits_7 : decode cX4_mayHaveBits 7 = .ok (.if_icmp .eq 15, 3) := by decide +kernel
theorem dX4_mayHaveBits_10 : decode cX4_mayHaveBits 10 = .ok (.iload_n 0, 1) := by decide +kernel
theorem dX4_mayHaveBits_11 : decode cX4_mayHaveBits 11 = .ok (.bipush 16, 2) := by decide +kernel
theorem dX4_mayHaveBits_13 : decode cX4_mayHaveBits 13 = .ok (.if_icmp .eq 9, 3) := by decide +kernel
theorem dX4_mayHaveBits_16 : decode cX4_mayHaveBits 16 = .ok (.iload_n 0, 1) := by decide +kernel
theorem dX4_mayHaveBits_17 : decode cX4_mayHaveBits 17 = .ok (.bipush 32, 2) := by decide +kernel
theorem dX4_mayHaveBits_19 : decode cX4_mayHaveBits 19 = .ok (.if_icmp .ne 7, 3) := by decide +kernel
theorem dX4_mayHaveBits_22 : decode cX4_mayHaveBits 22 = .ok (.iconst 1, 1) := by decide +kernel
theorem dX4_mayHaveBits_23 : decode cX4_mayHaveBits 23 = .ok (.goto 4, 3) := by decide +kernel
theorem dX4_mayHaveBits_26 : decode cX4_mayHaveBits 26 = .ok (.iconst 0, 1) := by decide +kernel
theorem dX4_mayHaveBits_27 : decode cX4_mayHaveBits 27 = .ok (.ireturn, 1) := by decide +kernel
theorem dX4_isMissing_0 : decode cX4_isMissing 0 = .ok (.aload_n 0, 1) := by decide +kernel
theorem dX4_isMissing_1 : decode cX4_isMissing 1 = .ok (.getfield 9, 3) := by decide +kernel
theorem dX4_isMissing_4 : decode cX4_isMissing 4 = .ok (.ifCond .ne 7, 3) := by decide +kernel
theorem dX4_isMissing_7 : decode cX4_isMissing 7 = .ok (.iconst 1, 1) := by decide +kernel
theorem dX4_isMissing_8 : decode cX4_isMissing 8 = .ok (.goto 4, 3) := by decide +kernel
theorem dX4_isMissing_11 : decode cX4_isMissing 11 = .ok (.iconst 0, 1) := by decide +kernel
theorem dX4_isMissing_12 : decode cX4_isMissing 12 = .ok (.ireturn, 1) := by decide +kernel
theorem dX4_begin_0 : decode cX4_begin 0 = .ok (.aload_n 0, 1) := by decide +kernel
theorem dX4_begin_1 : decode cX4_begin 1 = .ok (.iload_n 1, 1) := by decide +kernel
theorem dX4_begin_2 : decode cX4_begin 2 = .ok (.putfield 9, 3) := by decide +kernel
theorem dX4_begin_5 : decode cX4_begin 5 = .ok (.aload_n 0, 1) := by decide +kernel
theorem dX4_begin_6 : decode cX4_begin 6 = .ok (.iload_n 1, 1) := by decide +kernel
theorem dX4_begin_7 : decode cX4_begin 7 = .ok (.ifCond .ne 7, 3) := by decide +kernel
theorem dX4_begin_10 : decode cX4_begin 10 = .ok (.iconst 0, 1) := by decide +kernel
theorem dX4_begin_11 : decode cX4_begin 11 = .ok (.goto 13, 3) := by decide +kernel
theorem dX4_begin_14 : decode cX4_begin 14 = .ok (.iload_n 2, 1) := by decide +kernel
theorem dX4_begin_15 : decode cX4_begin 15 = .ok (.iconst 0, 1) := by decide +kernel
theorem dX4_begin_16 : decode cX4_begin 16 = .ok (.invokestatic 22, 3) := by decide +kernel
theorem dX4_begin_19 : decode cX4_begin 19 = .ok (.bipush 40, 2) := by decide +kernel
theorem dX4_begin_21 : decode cX4_begin 21 = .ok (.invokestatic 28, 3) := by decide +kernel
theorem dX4_begin_24 : decode cX4_begin 24 = .ok (.putfield 15, 3) := by decide +kernel
theorem dX4_begin_27 : decode cX4_begin 27 = .ok (.iconst 0, 1) := by decide +kernel
theorem dX4_begin_28 : decode cX4_begin 28 = .ok (.istore_n 3, 1) := by decide +kernel
theorem dX4_begin_29 : decode cX4_begin 29 = .ok (.iload_n 3, 1) := by decide +kernel
theorem dX4_begin_30 : decode cX4_begin 30 = .ok (.bipush 40, 2) := by decide +kernel
theorem dX4_begin_32 : decode cX4_begin 32 = .ok (.if_icmp .ge 16, 3) := by decide +kernel
theorem dX4_begin_35 : decode cX4_begin 35 = .ok (.aload_n 0, 1) := by decide +kernel
theorem dX4_begin_36 : decode cX4_begin 36 = .ok (.getfield 18, 3) := by decide +kernel
theorem dX4_begin_39 : decode cX4_begin 39 = .ok (.iload_n 3, 1) := by decide +kernel
theorem dX4_begin_40 : decode cX4_begin 40 = .ok (.iconst 0, 1) := by decide +kernel
theorem dX4_begin_41 : decode cX4_begin 41 = .ok (.iastore, 1) := by decide +kernel
theorem dX4_begin_42 : decode cX4_begin 42 = .ok (.iinc 3 1, 3) := by decide +kernel
theorem dX4_begin_45 : decode cX4_begin 45 = .ok (.goto (-16), 3) := by decide +kernel
theorem dX4_begin_48 : decode cX4_begin 48 = .ok (.return_, 1) := by decide +kernel
theorem dX4_put_0 : decode cX4_put 0 = .ok (.iload_n 1, 1) := by decide +kernel
theorem dX4_put_1 : decode cX4_put 1 = .ok (.ifCond .lt 11, 3) := by decide +kernel
theorem dX4_put_4 : decode cX4_put 4 = .ok (.iload_n 1, 1) := by decide +kernel
theorem dX4_put_5 : decode cX4_put 5 = .ok (.aload_n 0, 1) := by decide +kernel
theorem dX4_put_6 : decode cX4_put 6 = .ok (.getfield 15, 3) := by decide +kernel
theorem dX4_put_9 : decode cX4_put 9 = .ok (.if_icmp .lt 5, 3) := by decide +kernel
theorem dX4_put_12 : decode cX4_put 12 = .ok (.iconst 0, 1) := by decide +kernel
theorem dX4_put_13 : decode cX4_put 13 = .ok (.ireturn, 1) := by decide +kernel
theorem dX4_put_14 : decode cX4_put 14 = .ok (.aload_n 0, 1) := by decide +kernel
theorem dX4_put_15 : decode cX4_put 15 = .ok (.getfield 18, 3) := by decide +kernel
theorem dX4_put_18 : decode cX4_put 18 = .ok (.iload_n 1, 1) := by decide +kernel
theorem dX4_put_19 : decode cX4_put 19 = .ok (.aload_n 0, 1) := by decide +kernel
theorem dX4_put_20 : decode cX4_put 20 = .ok (.iload_n 2, 1) := by decide +kernel
theorem dX4_put_21 : decode cX4_put 21 = .ok (.invokevirtual 31, 3) := by decide +kernel
theorem dX4_put_24 : decode cX4_put 24 = .ok (.iastore, 1) := by decide +kernel
theorem dX4_put_25 : decode cX4_put 25 = .ok (.iconst 1, 1) := by decide +kernel
theorem dX4_put_26 : decode cX4_put 26 = .ok (.ireturn, 1) := by decide +kernel
theorem dX4_cut_0 : decode cX4_cut 0 = .ok (.aload_n 0, 1) := by decide +kernel
theorem dX4_cut_1 : decode cX4_cut 1 = .ok (.getfield 9, 3) := by decide +kernel
theorem dX4_cut_4 : decode cX4_cut 4 = .ok (.lookupswitch 34 #[(8, 28), (16, 31)], 28) := by decide +kernel
theorem dX4_cut_32 : decode cX4_cut 32 = .ok (.iload_n 1, 1) := by decide +kernel
theorem dX4_cut_33 : decode cX4_cut 33 = .ok (.i2b, 1) := by decide +kernel
theorem dX4_cut_34 : decode cX4_cut 34 = .ok (.ireturn, 1) := by decide +kernel
theorem dX4_cut_35 : decode cX4_cut 35 = .ok (.iload_n 1, 1) := by decide +kernel
theorem dX4_cut_36 : decode cX4_cut 36 = .ok (.i2s, 1) := by decide +kernel
theorem dX4_cut_37 : decode cX4_cut 37 = .ok (.ireturn, 1) := by decide +kernel
theorem dX4_cut_38 : decode cX4_cut 38 = .ok (.iload_n 1, 1) := by decide +kernel
theorem dX4_cut_39 : decode cX4_cut 39 = .ok (.ireturn, 1) := by decide +kernel
theorem dX4_has_0 : decode cX4_has 0 = .ok (.iload_n 1, 1) := by decide +kernel
theorem dX4_has_1 : decode cX4_has 1 = .ok (.ifCond .lt 29, 3) := by decide +kernel
theorem dX4_has_4 : decode cX4_has 4 = .ok (.iload_n 2, 1) := by decide +kernel
theorem dX4_has_5 : decode cX4_has 5 = .ok (.ifCond .lt 25, 3) := by decide +kernel
theorem dX4_has_8 : decode cX4_has 8 = .ok (.iload_n 2, 1) := by decide +kernel
theorem dX4_has_9 : decode cX4_has 9 = .ok (.aload_n 0, 1) := by decide +kernel
theorem dX4_has_10 : decode cX4_has 10 = .ok (.getfield 15, 3) := by decide +kernel
theorem dX4_has_13 : decode cX4_has 13 = .ok (.if_icmp .gt 17, 3) := by decide +kernel
theorem dX4_has_16 : decode cX4_has 16 = .ok (.iload_n 1, 1) := by decide +kernel
theorem dX4_has_17 : decode cX4_has 17 = .ok (.aload_n 0, 1) := by decide +kernel
theorem dX4_has_18 : decode cX4_has 18 = .ok (.getfield 15, 3) := by decide +kernel
theorem dX4_has_21 : decode cX4_has 21 = .ok (.iload_n 2, 1) := by decide +kernel
theorem dX4_has_22 : decode cX4_has 22 = .ok (.isub, 1) := by decide +kernel
theorem dX4_has_23 : decode cX4_has 23 = .ok (.if_icmp .gt 7, 3) := by decide +kernel
theorem dX4_has_26 : decode cX4_has 26 = .ok (.iconst 1, 1) := by decide +kernel
theorem dX4_has_27 : decode cX4_has 27 = .ok (.goto 4, 3) := by decide +kernel
theorem dX4_has_30 : decode cX4_has 30 = .ok (.iconst 0, 1) := by decide +kernel
theorem dX4_has_31 : decode cX4_has 31 = .ok (.ireturn, 1) := by decide +kernel
theorem dX5_init_0 : decode cX5_init 0 = .ok (.aload_n 0, 1) := by decide +kernel
theorem dX5_init_1 : decode cX5_init 1 = .ok (.invokespecial 3, 3) := by decide +kernel
theorem dX5_init_4 : decode cX5_init 4 = .ok (.aload_n 0, 1) := by decide +kernel
theorem dX5_init_5 : decode cX5_init 5 = .ok (.bipush 120, 2) := by decide +kernel
theorem dX5_init_7 : decode cX5_init 7 = .ok (.newarray .byte, 2) := by decide +kernel
theorem dX5_init_9 : decode cX5_init 9 = .ok (.putfield 9, 3) := by decide +kernel
theorem dX5_init_12 : decode cX5_init 12 = .ok (.aload_n 0, 1) := by decide +kernel
theorem dX5_init_13 : decode cX5_init 13 = .ok (.iconst 0, 1) := by decide +kernel
theorem dX5_init_14 : decode cX5_init 14 = .ok (.putfield 15, 3) := by decide +kernel
theorem dX5_init_17 : decode cX5_init 17 = .ok (.return_, 1) := by decide +kernel
theorem dX5_append_0 : decode cX5_append 0 = .ok (.iload_n 2, 1) := by decide +kernel
theorem dX5_append_1 : decode cX5_append 1 = .ok (.ifCond .lt 14, 3) := by decide +kernel
theorem dX5_append_4 : decode cX5_append 4 = .ok (.iload_n 2, 1) := by decide +kernel
theorem dX5_append_5 : decode cX5_append 5 = .ok (.bipush 120, 2) := by decide +kernel
theorem dX5_append_7 : decode cX5_append 7 = .ok (.aload_n 0, 1) := by decide +kernel
theorem dX5_append_8 : decode cX5_append 8 = .ok (.getfield 15, 3) := by decide +kernel
theorem dX5_append_11 : decode cX5_append 11 = .ok (.isub, 1) := by decide +kernel
theorem dX5_append_12 : decode cX5_append 12 = .ok (.if_icmp .le 5, 3) := by decide +kernel
theorem dX5_append_15 : decode cX5_append 15 = .ok (.iconst 0, 1) := by decide +kernel
theorem dX5_append_16 : decode cX5_append 16 = .ok (.ireturn, 1) := by decide +kernel
theorem dX5_append_17 : decode cX5_append 17 = .ok (.iload_n 2, 1) := by decide +kernel
theorem dX5_append_18 : decode cX5_append 18 = .ok (.iconst 1, 1) := by decide +kernel
theorem dX5_append_19 : decode cX5_append 19 = .ok (.isub, 1) := by decide +kernel
theorem dX5_append_20 : decode cX5_append 20 = .ok (.istore_n 3, 1) := by decide +kernel
theorem dX5_append_21 : decode cX5_append 21 = .ok (.iload_n 3, 1) := by decide +kernel
theorem dX5_append_22 : decode cX5_append 22 = .ok (.ifCond .lt 35, 3) := by decide +kernel
theorem dX5_append_25 : decode cX5_append 25 = .ok (.aload_n 0, 1) := by decide +kernel
theorem dX5_append_26 : decode cX5_append 26 = .ok (.getfield 9, 3) := by decide +kernel
theorem dX5_append_29 : decode cX5_append 29 = .ok (.aload_n 0, 1) := by decide +kernel
theorem dX5_append_30 : decode cX5_append 30 = .ok (.getfield 15, 3) := by decide +kernel
theorem dX5_append_33 : decode cX5_append 33 = .ok (.iload_n 1, 1) := by decide +kernel
theorem dX5_append_34 : decode cX5_append 34 = .ok (.bipush 8, 2) := by decide +kernel
theorem dX5_append_36 : decode cX5_append 36 = .ok (.iload_n 3, 1) := by decide +kernel
theorem dX5_append_37 : decode cX5_append 37 = .ok (.imul, 1) := by decide +kernel
theorem dX5_append_38 : decode cX5_append 38 = .ok (.iushr, 1) := by decide +kernel
theorem dX5_append_39 : decode cX5_append 39 = .ok (.i2b, 1) := by decide +kernel
theorem dX5_append_40 : decode cX5_append 40 = .ok (.bastore, 1) := by decide +kernel
theorem dX5_append_41 : decode cX5_append 41 = .ok (.aload_n 0, 1) := by decide +kernel
theorem dX5_append_42 : decode cX5_append 42 = .ok (.dup, 1) := by decide +kernel
theorem dX5_append_43 : decode cX5_append 43 = .ok (.getfield 15, 3) := by decide +kernel
theorem dX5_append_46 : decode cX5_append 46 = .ok (.iconst 1, 1) := by decide +kernel
theorem dX5_append_47 : decode cX5_append 47 = .ok (.iadd, 1) := by decide +kernel
theorem dX5_append_48 : decode cX5_append 48 = .ok (.putfield 15, 3) := by decide +kernel
theorem dX5_append_51 : decode cX5_append 51 = .ok (.iinc 3 (-1), 3) := by decide +kernel
theorem dX5_append_54 : decode cX5_append 54 = .ok (.goto (-33), 3) := by decide +kernel
theorem dX5_append_57 : decode cX5_append 57 = .ok (.iconst 1, 1) := by decide +kernel
theorem dX5_append_58 : decode cX5_append 58 = .ok (.ireturn, 1) := by decide +kernel
theorem dX5_empty_0 : decode cX5_empty 0 = .ok (.aload_n 0, 1) := by decide +kernel
theorem dX5_empty_1 : decode cX5_empty 1 = .ok (.getfield 15, 3) := by decide +kernel
theorem dX5_empty_4 : decode cX5_empty 4 = .ok (.istore_n 1, 1) := by decide +kernel
theorem dX5_empty_5 : decode cX5_empty 5 = .ok (.aload_n 0, 1) := by decide +kernel
theorem dX5_empty_6 : decode cX5_empty 6 = .ok (.iconst 0, 1) := by decide +kernel
theorem dX5_empty_7 : decode cX5_empty 7 = .ok (.putfield 15, 3) := by decide +kernel
theorem dX5_empty_10 : decode cX5_empty 10 = .ok (.iload_n 1, 1) := by decide +kernel
theorem dX5_empty_11 : decode cX5_empty 11 = .ok (.ireturn, 1) := by decide +kernel
theorem dX5_byteAt_0 : decode cX5_byteAt 0 = .ok (.iload_n 1, 1) := by decide +kernel
theorem dX5_byteAt_1 : decode cX5_byteAt 1 = .ok (.ifCond .lt 30, 3) := by decide +kernel
theorem dX5_byteAt_4 : decode cX5_byteAt 4 = .ok (.iload_n 1, 1) := by decide +kernel
theorem dX5_byteAt_5 : decode cX5_byteAt 5 = .ok (.aload_n 0, 1) := by decide +kernel
theorem dX5_byteAt_6 : decode cX5_byteAt 6 = .ok (.getfield 15, 3) := by decide +kernel
theorem dX5_byteAt_9 : decode cX5_byteAt 9 = .ok (.if_icmp .ge 22, 3) := by decide +kernel
theorem dX5_byteAt_12 : decode cX5_byteAt 12 = .ok (.iload_n 1, 1) := by decide +kernel
theorem dX5_byteAt_13 : decode cX5_byteAt 13 = .ok (.bipush 120, 2) := by decide +kernel
theorem dX5_byteAt_15 : decode cX5_byteAt 15 = .ok (.if_icmp .ge 16, 3) := by decide +kernel
theorem dX5_byteAt_18 : decode cX5_byteAt 18 = .ok (.aload_n 0, 1) := by decide +kernel
theorem dX5_byteAt_19 : decode cX5_byteAt 19 = .ok (.getfield 9, 3) := by decide +kernel
theorem dX5_byteAt_22 : decode cX5_byteAt 22 = .ok (.iload_n 1, 1) := by decide +kernel
theorem dX5_byteAt_23 : decode cX5_byteAt 23 = .ok (.baload, 1) := by decide +kernel
theorem dX5_byteAt_24 : decode cX5_byteAt 24 = .ok (.sipush 255, 3) := by decide +kernel
theorem dX5_byteAt_27 : decode cX5_byteAt 27 = .ok (.iand, 1) := by decide +kernel
theorem dX5_byteAt_28 : decode cX5_byteAt 28 = .ok (.goto 4, 3) := by decide +kernel
theorem dX5_byteAt_31 : decode cX5_byteAt 31 = .ok (.iconst (-1), 1) := by decide +kernel
theorem dX5_byteAt_32 : decode cX5_byteAt 32 = .ok (.ireturn, 1) := by decide +kernel
theorem dX6_init_0 : decode cX6_init 0 = .ok (.aload_n 0, 1) := by decide +kernel
theorem dX6_init_1 : decode cX6_init 1 = .ok (.invokespecial 3, 3) := by decide +kernel
theorem dX6_init_4 : decode cX6_init 4 = .ok (.aload_n 0, 1) := by decide +kernel
theorem dX6_init_5 : decode cX6_init 5 = .ok (.new 9, 3) := by decide +kernel
theorem dX6_init_8 : decode cX6_init 8 = .ok (.dup, 1) := by decide +kernel
theorem dX6_init_9 : decode cX6_init 9 = .ok (.invokespecial 11, 3) := by decide +kernel
theorem dX6_init_12 : decode cX6_init 12 = .ok (.putfield 12, 3) := by decide +kernel
theorem dX6_init_15 : decode cX6_init 15 = .ok (.aload_n 0, 1) := by decide +kernel
theorem dX6_init_16 : decode cX6_init 16 = .ok (.new 9, 3) := by decide +kernel
theorem dX6_init_19 : decode cX6_init 19 = .ok (.dup, 1) := by decide +kernel
theorem dX6_init_20 : decode cX6_init 20 = .ok (.invokespecial 11, 3) := by decide +kernel
theorem dX6_init_23 : decode cX6_init 23 = .ok (.putfield 16, 3) := by decide +kernel
theorem dX6_init_26 : decode cX6_init 26 = .ok (.aload_n 0, 1) := by decide +kernel
theorem dX6_init_27 : decode cX6_init 27 = .ok (.iconst 0, 1) := by decide +kernel
theorem dX6_init_28 : decode cX6_init 28 = .ok (.putfield 19, 3) := by decide +kernel
theorem dX6_init_31 : decode cX6_init 31 = .ok (.aload_n 0, 1) := by decide +kernel
theorem dX6_init_32 : decode cX6_init 32 = .ok (.new 23, 3) := by decide +kernel
theorem dX6_init_35 : decode cX6_init 35 = .ok (.dup, 1) := by decide +kernel
theorem dX6_init_36 : decode cX6_init 36 = .ok (.invokespecial 25, 3) := by decide +kernel
theorem dX6_init_39 : decode cX6_init 39 = .ok (.putfield 26, 3) := by decide +kernel
theorem dX6_init_42 : decode cX6_init 42 = .ok (.aload_n 0, 1) := by decide +kernel
theorem dX6_init_43 : decode cX6_init 43 = .ok (.new 30, 3) := by decide +kernel
theorem dX6_init_46 : decode cX6_init 46 = .ok (.dup, 1) := by decide +kernel
theorem dX6_init_47 : decode cX6_init 47 = .ok (.invokespecial 32, 3) := by decide +kernel
theorem dX6_init_50 : decode cX6_init 50 = .ok (.putfield 33, 3) := by decide +kernel
theorem dX6_init_53 : decode cX6_init 53 = .ok (.aload_n 0, 1) := by decide +kernel
theorem dX6_init_54 : decode cX6_init 54 = .ok (.iconst 4, 1) := by decide +kernel
theorem dX6_init_55 : decode cX6_init 55 = .ok (.anewarray 37, 3) := by decide +kernel
theorem dX6_init_58 : decode cX6_init 58 = .ok (.putfield 39, 3) := by decide +kernel
theorem dX6_init_61 : decode cX6_init 61 = .ok (.aload_n 0, 1) := by decide +kernel
theorem dX6_init_62 : decode cX6_init 62 = .ok (.bipush 7, 2) := by decide +kernel
theorem dX6_init_64 : decode cX6_init 64 = .ok (.newarray .int, 2) := by decide +kernel
theorem dX6_init_66 : decode cX6_init 66 = .ok (.putfield 43, 3) := by decide +kernel
theorem dX6_init_69 : decode cX6_init 69 = .ok (.iconst 0, 1) := by decide +kernel
theorem dX6_init_70 : decode cX6_init 70 = .ok (.istore_n 1, 1) := by decide +kernel
theorem dX6_init_71 : decode cX6_init 71 = .ok (.iload_n 1, 1) := by decide +kernel
theorem dX6_init_72 : decode cX6_init 72 = .ok (.iconst 4, 1) := by decide +kernel
theorem dX6_init_73 : decode cX6_init 73 = .ok (.if_icmp .ge 22, 3) := by decide +kernel
theorem dX6_init_76 : decode cX6_init 76 = .ok (.aload_n 0, 1) := by decide +kernel
theorem dX6_init_77 : decode cX6_init 77 = .ok (.getfield 39, 3) := by decide +kernel
theorem dX6_init_80 : decode cX6_init 80 = .ok (.iload_n 1, 1) := by decide +kernel
theorem dX6_init_81 : decode cX6_init 81 = .ok (.new 37, 3) := by decide +kernel
theorem dX6_init_84 : decode cX6_init 84 = .ok (.dup, 1) := by decide +kernel
theorem dX6_init_85 : decode cX6_init 85 = .ok (.invokespecial 47, 3) := by decide +kernel
theorem dX6_init_88 : decode cX6_init 88 = .ok (.aastore, 1) := by decide +kernel
theorem dX6_init_89 : decode cX6_init 89 = .ok (.iinc 1 1, 3) := by decide +kernel
theorem dX6_init_92 : decode cX6_init 92 = .ok (.goto (-21), 3) := by decide +kernel
theorem dX6_init_95 : decode cX6_init 95 = .ok (.return_, 1) := by decide +kernel
theorem dX6_set_0 : decode cX6_set 0 = .ok (.iload_n 1, 1) := by decide +kernel
theorem dX6_set_1 : decode cX6_set 1 = .ok (.ifCond .ne 30, 3) := by decide +kernel
theorem dX6_set_4 : decode cX6_set 4 = .ok (.iload_n 2, 1) := by decide +kernel
theorem dX6_set_5 : decode cX6_set 5 = .ok (.bipush 9, 2) := by decide +kernel
theorem dX6_set_7 : decode cX6_set 7 = .ok (.invokestatic 48, 3) := by decide +kernel
theorem dX6_set_10 : decode cX6_set 10 = .ok (.ifCond .eq 21, 3) := by decide +kernel
theorem dX6_set_13 : decode cX6_set 13 = .ok (.aload_n 0, 1) := by decide +kernel
theorem dX6_set_14 : decode cX6_set 14 = .ok (.getfield 12, 3) := by decide +kernel
theorem dX6_set_17 : decode cX6_set 17 = .ok (.getfield 52, 3) := by decide +kernel
theorem dX6_set_20 : decode cX6_set 20 = .ok (.istore_n 3, 1) := by decide +kernel
theorem dX6_set_21 : decode cX6_set 21 = .ok (.aload_n 0, 1) := by decide +kernel
theorem dX6_set_22 : decode cX6_set 22 = .ok (.getfield 12, 3) := by decide +kernel
theorem dX6_set_25 : decode cX6_set 25 = .ok (.iload_n 2, 1) := by decide +kernel
theorem dX6_set_26 : decode cX6_set 26 = .ok (.putfield 52, 3) := by decide +kernel
theorem dX6_set_29 : decode cX6_set 29 = .ok (.iload_n 3, 1) := by decide +kernel
theorem dX6_set_30 : decode cX6_set 30 = .ok (.ireturn, 1) := by decide +kernel
theorem dX6_set_31 : decode cX6_set 31 = .ok (.iload_n 1, 1) := by decide +kernel
theorem dX6_set_32 : decode cX6_set 32 = .ok (.iconst 1, 1) := by decide +kernel
theorem dX6_set_33 : decode cX6_set 33 = .ok (.if_icmp .ne 31, 3) := by decide +kernel
theorem dX6_set_36 : decode cX6_set 36 = .ok (.iload_n 2, 1) := by decide +kernel
theorem dX6_set_37 : decode cX6_set 37 = .ok (.sipush 255, 3) := by decide +kernel
theorem dX6_set_40 : decode cX6_set 40 = .ok (.invokestatic 48, 3) := by decide +kernel
theorem dX6_set_43 : decode cX6_set 43 = .ok (.ifCond .eq 21, 3) := by decide +kernel
theorem dX6_set_46 : decode cX6_set 46 = .ok (.aload_n 0, 1) := by decide +kernel
theorem dX6_set_47 : decode cX6_set 47 = .ok (.getfield 12, 3) := by decide +kernel
theorem dX6_set_50 : decode cX6_set 50 = .ok (.getfield 56, 3) := by decide +kernel
theorem dX6_set_53 : decode cX6_set 53 = .ok (.istore_n 3, 1) := by decide +kernel
theorem dX6_set_54 : decode cX6_set 54 = .ok (.aload_n 0, 1) := by decide +kernel
theorem dX6_set_55 : decode cX6_set 55 = .ok (.getfield 12, 3) := by decide +kernel
theorem dX6_set_58 : decode cX6_set 58 = .ok (.iload_n 2, 1) := by decide +kernel
theorem dX6_set_59 : decode cX6_set 59 = .ok (.putfield 56, 3) := by decide +kernel
theorem dX6_set_62 : decode cX6_set 62 = .ok (.iload_n 3, 1) := by decide +kernel
theorem dX6_set_63 : decode cX6_set 63 = .ok (.ireturn, 1) := by decide +kernel
theorem dX6_set_64 : decode cX6_set 64 = .ok (.aload_n 0, 1) := by decide +kernel
theorem dX6_set_65 : decode cX6_set 65 = .ok (.ldc 59, 2) := by decide +kernel
theorem dX6_set_67 : decode cX6_set 67 = .ok (.invokevirtual 60, 3) := by decide +kernel
theorem dX6_set_70 : decode cX6_set 70 = .ok (.ireturn, 1) := by decide +kernel
theorem dX6_list_0 : decode cX6_list 0 = .ok (.iload_n 1, 1) := by decide +kernel
theorem dX6_list_1 : decode cX6_list 1 = .ok (.iconst 5, 1) := by decide +kernel
theorem dX6_list_2 : decode cX6_list 2 = .ok (.invokestatic 48, 3) := by decide +kernel
theorem dX6_list_5 : decode cX6_list 5 = .ok (.ifCond .eq 10, 3) := by decide +kernel
theorem dX6_list_8 : decode cX6_list 8 = .ok (.iload_n 2, 1) := by decide +kernel
theorem dX6_list_9 : decode cX6_list 9 = .ok (.invokestatic 64, 3) := by decide +kernel
theorem dX6_list_12 : decode cX6_list 12 = .ok (.ifCond .ne 10, 3) := by decide +kernel
theorem dX6_list_15 : decode cX6_list 15 = .ok (.aload_n 0, 1) := by decide +kernel
theorem dX6_list_16 : decode cX6_list 16 = .ok (.ldc 59, 2) := by decide +kernel
theorem dX6_list_18 : decode cX6_list 18 = .ok (.invokevirtual 60, 3) := by decide +kernel
theorem dX6_list_21 : decode cX6_list 21 = .ok (.ireturn, 1) := by decide +kernel
theorem dX6_list_22 : decode cX6_list 22 = .ok (.aload_n 0, 1) := by decide +kernel
theorem dX6_list_23 : decode cX6_list 23 = .ok (.getfield 12, 3) := by decide +kernel
theorem dX6_list_26 : decode cX6_list 26 = .ok (.getfield 68, 3) := by decide +kernel
theorem dX6_list_29 : decode cX6_list 29 = .ok (.iload_n 1, 1) := by decide +kernel
theorem dX6_list_30 : decode cX6_list 30 = .ok (.iaload, 1) := by decide +kernel
theorem dX6_list_31 : decode cX6_list 31 = .ok (.istore_n 3, 1) := by decide +kernel
theorem dX6_list_32 : decode cX6_list 32 = .ok (.aload_n 0, 1) := by decide +kernel
theorem dX6_list_33 : decode cX6_list 33 = .ok (.getfield 12, 3) := by decide +kernel
theorem dX6_list_36 : decode cX6_list 36 = .ok (.getfield 68, 3) := by decide +kernel
theorem dX6_list_39 : decode cX6_list 39 = .ok (.iload_n 1, 1) := by decide +kernel
theorem dX6_list_40 : decode cX6_list 40 = .ok (.iload_n 2, 1) := by decide +kernel
theorem dX6_list_41 : decode cX6_list 41 = .ok (.iastore, 1) := by decide +kernel
theorem dX6_list_42 : decode cX6_list 42 = .ok (.iload_n 3, 1) := by decide +kernel
theorem dX6_list_43 : decode cX6_list 43 = .ok (.ireturn, 1) := by decide +kernel
theorem dX6_listed_0 : decode cX6_listed 0 = .ok (.iload_n 1, 1) := by decide +kernel
theorem dX6_listed_1 : decode cX6_listed 1 = .ok (.iconst 5, 1) := by decide +kernel
theorem dX6_listed_2 : decode cX6_listed 2 = .ok (.invokestatic 48, 3) := by decide +kernel
theorem dX6_listed_5 : decode cX6_listed 5 = .ok (.ifCond .eq 15, 3) := by decide +kernel
theorem dX6_listed_8 : decode cX6_listed 8 = .ok (.aload_n 0, 1) := by decide +kernel
theorem dX6_listed_9 : decode cX6_listed 9 = .ok (.getfield 12, 3) := by decide +kernel
theorem dX6_listed_12 : decode cX6_listed 12 = .ok (.getfield 68, 3) := by decide +kernel
theorem dX6_listed_15 : decode cX6_listed 15 = .ok (.iload_n 1, 1) := by decide +kernel
theorem dX6_listed_16 : decode cX6_listed 16 = .ok (.iaload, 1) := by decide +kernel
theorem dX6_listed_17 : decode cX6_listed 17 = .ok (.goto 9, 3) := by decide +kernel
theorem dX6_listed_20 : decode cX6_listed 20 = .ok (.aload_n 0, 1) := by decide +kernel
theorem dX6_listed_21 : decode cX6_listed 21 = .ok (.ldc 59, 2) := by decide +kernel
theorem dX6_listed_23 : decode cX6_listed 23 = .ok (.invokevirtual 60, 3) := by decide +kernel
theorem dX6_listed_26 : decode cX6_listed 26 = .ok (.ireturn, 1) := by decide +kernel
theorem dX6_priest_0 : decode cX6_priest 0 = .ok (.iload_n 1, 1) := by decide +kernel
theorem dX6_priest_1 : decode cX6_priest 1 = .ok (.invokestatic 71, 3) := by decide +kernel
theorem dX6_priest_4 : decode cX6_priest 4 = .ok (.ifCond .eq 13, 3) := by decide +kernel
theorem dX6_priest_7 : decode cX6_priest 7 = .ok (.iload_n 2, 1) := by decide +kernel
theorem dX6_priest_8 : decode cX6_priest 8 = .ok (.sipush 255, 3) := by decide +kernel
theorem dX6_priest_11 : decode cX6_priest 11 = .ok (.invokestatic 48, 3) := by decide +kernel
theorem dX6_priest_14 : decode cX6_priest 14 = .ok (.ifCond .ne 10, 3) := by decide +kernel
theorem dX6_priest_17 : decode cX6_priest 17 = .ok (.aload_n 0, 1) := by decide +kernel
theorem dX6_priest_18 : decode cX6_priest 18 = .ok (.ldc 59, 2) := by decide +kernel
theorem dX6_priest_20 : decode cX6_priest 20 = .ok (.invokevirtual 60, 3) := by decide +kernel
theorem dX6_priest_23 : decode cX6_priest 23 = .ok (.ireturn, 1) := by decide +kernel
theorem dX6_priest_24 : decode cX6_priest 24 = .ok (.aload_n 0, 1) := by decide +kernel
theorem dX6_priest_25 : decode cX6_priest 25 = .ok (.getfield 12, 3) := by decide +kernel
theorem dX6_priest_28 : decode cX6_priest 28 = .ok (.iload_n 1, 1) := by decide +kernel
theorem dX6_priest_29 : decode cX6_priest 29 = .ok (.iload_n 2, 1) := by decide +kernel
theorem dX6_priest_30 : decode cX6_priest 30 = .ok (.invokevirtual 76, 3) := by decide +kernel
theorem dX6_priest_33 : decode cX6_priest 33 = .ok (.istore_n 3, 1) := by decide +kernel
theorem dX6_priest_34 : decode cX6_priest 34 = .ok (.iload_n 3, 1) := by decide +kernel
theorem dX6_priest_35 : decode cX6_priest 35 = .ok (.ifCond .ge 12, 3) := by decide +kernel
theorem dX6_priest_38 : decode cX6_priest 38 = .ok (.aload_n 0, 1) := by decide +kernel
theorem dX6_priest_39 : decode cX6_priest 39 = .ok (.ldc 80, 2) := by decide +kernel
theorem dX6_priest_41 : decode cX6_priest 41 = .ok (.invokevirtual 60, 3) := by decide +kernel
theorem dX6_priest_44 : decode cX6_priest 44 = .ok (.goto 4, 3) := by decide +kernel
theorem dX6_priest_47 : decode cX6_priest 47 = .ok (.iload_n 3, 1) := by decide +kernel
theorem dX6_priest_48 : decode cX6_priest 48 = .ok (.ireturn, 1) := by decide +kernel
theorem dX6_of_0 : decode cX6_of 0 = .ok (.aload_n 0, 1) := by decide +kernel
theorem dX6_of_1 : decode cX6_of 1 = .ok (.getfield 12, 3) := by decide +kernel
theorem dX6_of_4 : decode cX6_of 4 = .ok (.iload_n 1, 1) := by decide +kernel
theorem dX6_of_5 : decode cX6_of 5 = .ok (.invokevirtual 81, 3) := by decide +kernel
theorem dX6_of_8 : decode cX6_of 8 = .ok (.astore_n 3, 1) := by decide +kernel
theorem dX6_of_9 : decode cX6_of 9 = .ok (.aload_n 3, 1) := by decide +kernel
theorem dX6_of_10 : decode cX6_of 10 = .ok (.ifnull 24, 3) := by decide +kernel
theorem dX6_of_13 : decode cX6_of 13 = .ok (.iload_n 2, 1) := by decide +kernel
theorem dX6_of_14 : decode cX6_of 14 = .ok (.bipush 9, 2) := by decide +kernel
theorem dX6_of_16 : decode cX6_of 16 = .ok (.invokestatic 48, 3) := by decide +kernel
theorem dX6_of_19 : decode cX6_of 19 = .ok (.ifCond .eq 15, 3) := by decide +kernel
theorem dX6_of_22 : decode cX6_of 22 = .ok (.aload_n 0, 1) := by decide +kernel
theorem dX6_of_23 : decode cX6_of 23 = .ok (.getfield 12, 3) := by decide +kernel
theorem dX6_of_26 : decode cX6_of 26 = .ok (.aload_n 3, 1) := by decide +kernel
theorem dX6_of_27 : decode cX6_of 27 = .ok (.iload_n 2, 1) := by decide +kernel
theorem dX6_of_28 : decode cX6_of 28 = .ok (.invokevirtual 85, 3) := by decide +kernel
theorem dX6_of_31 : decode cX6_of 31 = .ok (.goto 9, 3) := by decide +kernel
theorem dX6_of_34 : decode cX6_of 34 = .ok (.aload_n 0, 1) := by decide +kernel
theorem dX6_of_35 : decode cX6_of 35 = .ok (.ldc 59, 2) := by decide +kernel
theorem dX6_of_37 : decode cX6_of 37 = .ok (.invokevirtual 60, 3) := by decide +kernel
theorem dX6_of_40 : decode cX6_of 40 = .ok (.ireturn, 1) := by decide +kernel
theorem dX6_change_0 : decode cX6_change 0 = .ok (.aload_n 0, 1) := by decide +kernel
theorem dX6_change_1 : decode cX6_change 1 = .ok (.getfield 12, 3) := by decide +kernel
theorem dX6_change_4 : decode cX6_change 4 = .ok (.iload_n 1, 1) := by decide +kernel
theorem dX6_change_5 : decode cX6_change 5 = .ok (.invokevirtual 81, 3) := by decide +kernel
theorem dX6_change_8 : decode cX6_change 8 = .ok (.astore 4, 2) := by decide +kernel
theorem dX6_change_10 : decode cX6_change 10 = .ok (.aload 4, 2) := by decide +kernel
theorem dX6_change_12 : decode cX6_change 12 = .ok (.ifnull 11, 3) := by decide +kernel
theorem dX6_change_15 : decode cX6_change 15 = .ok (.iload_n 2, 1) := by decide +kernel
theorem dX6_change_16 : decode cX6_change 16 = .ok (.iload_n 3, 1) := by decide +kernel
theorem dX6_change_17 : decode cX6_change 17 = .ok (.invokestatic 89, 3) := by decide +kernel
theorem dX6_change_20 : decode cX6_change 20 = .ok (.ifCond .ne 10, 3) := by decide +kernel
theorem dX6_change_23 : decode cX6_change 23 = .ok (.aload_n 0, 1) := by decide +kernel
theorem dX6_change_24 : decode cX6_change 24 = .ok (.ldc 59, 2) := by decide +kernel
theorem dX6_change_26 : decode cX6_change 26 = .ok (.invokevirtual 60, 3) := by decide +kernel
theorem dX6_change_29 : decode cX6_change 29 = .ok (.ireturn, 1) := by decide +kernel
theorem dX6_change_30 : decode cX6_change 30 = .ok (.aload_n 0, 1) := by decide +kernel
theorem dX6_change_31 : decode cX6_change 31 = .ok (.getfield 12, 3) := by decide +kernel
theorem dX6_change_34 : decode cX6_change 34 = .ok (.aload 4, 2) := by decide +kernel
theorem dX6_change_36 : decode cX6_change 36 = .ok (.iload_n 2, 1) := by decide +kernel
theorem dX6_change_37 : decode cX6_change 37 = .ok (.invokevirtual 85, 3) := by decide +kernel
theorem dX6_change_40 : decode cX6_change 40 = .ok (.istore 5, 2) := by decide +kernel
theorem dX6_change_42 : decode cX6_change 42 = .ok (.aload 4, 2) := by decide +kernel
theorem dX6_change_44 : decode cX6_change 44 = .ok (.iload_n 2, 1) := by decide +kernel
theorem dX6_change_45 : decode cX6_change 45 = .ok (.iload_n 3, 1) := by decide +kernel
theorem dX6_change_46 : decode cX6_change 46 = .ok (.invokevirtual 92, 3) := by decide +kernel
theorem dX6_change_49 : decode cX6_change 49 = .ok (.iload 5, 2) := by decide +kernel
theorem dX6_change_51 : decode cX6_change 51 = .ok (.ireturn, 1) := by decide +kernel
theorem dX6_swells_0 : decode cX6_swells 0 = .ok (.aload_n 0, 1) := by decide +kernel
theorem dX6_swells_1 : decode cX6_swells 1 = .ok (.getfield 12, 3) := by decide +kernel
theorem dX6_swells_4 : decode cX6_swells 4 = .ok (.iload_n 1, 1) := by decide +kernel
theorem dX6_swells_5 : decode cX6_swells 5 = .ok (.invokevirtual 81, 3) := by decide +kernel
theorem dX6_swells_8 : decode cX6_swells 8 = .ok (.astore_n 3, 1) := by decide +kernel
theorem dX6_swells_9 : decode cX6_swells 9 = .ok (.aload_n 3, 1) := by decide +kernel
theorem dX6_swells_10 : decode cX6_swells 10 = .ok (.ifnull 10, 3) := by decide +kernel
theorem dX6_swells_13 : decode cX6_swells 13 = .ok (.iload_n 2, 1) := by decide +kernel
theorem dX6_swells_14 : decode cX6_swells 14 = .ok (.invokestatic 64, 3) := by decide +kernel
theorem dX6_swells_17 : decode cX6_swells 17 = .ok (.ifCond .ne 10, 3) := by decide +kernel
theorem dX6_swells_20 : decode cX6_swells 20 = .ok (.aload_n 0, 1) := by decide +kernel
theorem dX6_swells_21 : decode cX6_swells 21 = .ok (.ldc 59, 2) := by decide +kernel
theorem dX6_swells_23 : decode cX6_swells 23 = .ok (.invokevirtual 60, 3) := by decide +kernel
theorem dX6_swells_26 : decode cX6_swells 26 = .ok (.ireturn, 1) := by decide +kernel
theorem dX6_swells_27 : decode cX6_swells 27 = .ok (.aload_n 3, 1) := by decide +kernel
theorem dX6_swells_28 : decode cX6_swells 28 = .ok (.iload_n 2, 1) := by decide +kernel
theorem dX6_swells_29 : decode cX6_swells 29 = .ok (.invokestatic 96, 3) := by decide +kernel
theorem dX6_swells_32 : decode cX6_swells 32 = .ok (.iload_n 2, 1) := by decide +kernel
theorem dX6_swells_33 : decode cX6_swells 33 = .ok (.invokestatic 99, 3) := by decide +kernel
theorem dX6_swells_36 : decode cX6_swells 36 = .ok (.aload_n 0, 1) := by decide +kernel
theorem dX6_swells_37 : decode cX6_swells 37 = .ok (.getfield 12, 3) := by decide +kernel
theorem dX6_swells_40 : decode cX6_swells 40 = .ok (.getfield 52, 3) := by decide +kernel
theorem dX6_swells_43 : decode cX6_swells 43 = .ok (.invokevirtual 102, 3) := by decide +kernel
theorem dX6_swells_46 : decode cX6_swells 46 = .ok (.ireturn, 1) := by decide +kernel
theorem dX6_goes_0 : decode cX6_goes 0 = .ok (.iload_n 1, 1) := by decide +kernel
theorem dX6_goes_1 : decode cX6_goes 1 = .ok (.bipush 7, 2) := by decide +kernel
theorem dX6_goes_3 : decode cX6_goes 3 = .ok (.invokestatic 48, 3) := by decide +kernel
theorem dX6_goes_6 : decode cX6_goes 6 = .ok (.ifCond .eq 25, 3) := by decide +kernel
theorem dX6_goes_9 : decode cX6_goes 9 = .ok (.aload_n 0, 1) := by decide +kernel
theorem dX6_goes_10 : decode cX6_goes 10 = .ok (.aload_n 0, 1) := by decide +kernel
theorem dX6_goes_11 : decode cX6_goes 11 = .ok (.getfield 12, 3) := by decide +kernel
theorem dX6_goes_14 : decode cX6_goes 14 = .ok (.aload_n 0, 1) := by decide +kernel
theorem dX6_goes_15 : decode cX6_goes 15 = .ok (.getfield 12, 3) := by decide +kernel
theorem dX6_goes_18 : decode cX6_goes 18 = .ok (.iload_n 1, 1) := by decide +kernel
theorem dX6_goes_19 : decode cX6_goes 19 = .ok (.invokevirtual 106, 3) := by decide +kernel
theorem dX6_goes_22 : decode cX6_goes 22 = .ok (.invokevirtual 109, 3) := by decide +kernel
theorem dX6_goes_25 : decode cX6_goes 25 = .ok (.invokevirtual 112, 3) := by decide +kernel
theorem dX6_goes_28 : decode cX6_goes 28 = .ok (.goto 9, 3) := by decide +kernel
theorem dX6_goes_31 : decode cX6_goes 31 = .ok (.aload_n 0, 1) := by decide +kernel
theorem dX6_goes_32 : decode cX6_goes 32 = .ok (.ldc 59, 2) := by decide +kernel
theorem dX6_goes_34 : decode cX6_goes 34 = .ok (.invokevirtual 60, 3) := by decide +kernel
theorem dX6_goes_37 : decode cX6_goes 37 = .ok (.ireturn, 1) := by decide +kernel
theorem dX6_dies_0 : decode cX6_dies 0 = .ok (.aload_n 0, 1) := by decide +kernel
theorem dX6_dies_1 : decode cX6_dies 1 = .ok (.getfield 12, 3) := by decide +kernel
theorem dX6_dies_4 : decode cX6_dies 4 = .ok (.iload_n 1, 1) := by decide +kernel
theorem dX6_dies_5 : decode cX6_dies 5 = .ok (.invokevirtual 81, 3) := by decide +kernel
theorem dX6_dies_8 : decode cX6_dies 8 = .ok (.astore_n 2, 1) := by decide +kernel
theorem dX6_dies_9 : decode cX6_dies 9 = .ok (.aload_n 2, 1) := by decide +kernel
theorem dX6_dies_10 : decode cX6_dies 10 = .ok (.ifnull 19, 3) := by decide +kernel
theorem dX6_dies_13 : decode cX6_dies 13 = .ok (.aload_n 0, 1) := by decide +kernel
theorem dX6_dies_14 : decode cX6_dies 14 = .ok (.aload_n 0, 1) := by decide +kernel
theorem dX6_dies_15 : decode cX6_dies 15 = .ok (.getfield 12, 3) := by decide +kernel
theorem dX6_dies_18 : decode cX6_dies 18 = .ok (.iload_n 1, 1) := by decide +kernel
theorem dX6_dies_19 : decode cX6_dies 19 = .ok (.aload_n 2, 1) := by decide +kernel
theorem dX6_dies_20 : decode cX6_dies 20 = .ok (.invokevirtual 115, 3) := by decide +kernel
theorem dX6_dies_23 : decode cX6_dies 23 = .ok (.invokevirtual 112, 3) := by decide +kernel
theorem dX6_dies_26 : decode cX6_dies 26 = .ok (.goto 9, 3) := by decide +kernel
theorem dX6_dies_29 : decode cX6_dies 29 = .ok (.aload_n 0, 1) := by decide +kernel
theorem dX6_dies_30 : decode cX6_dies 30 = .ok (.ldc 59, 2) := by decide +kernel
theorem dX6_dies_32 : decode cX6_dies 32 = .ok (.invokevirtual 60, 3) := by decide +kernel
theorem dX6_dies_35 : decode cX6_dies 35 = .ok (.ireturn, 1) := by decide +kernel
theorem dX6_go_0 : decode cX6_go 0 = .ok (.iload_n 1, 1) := by decide +kernel
theorem dX6_go_1 : decode cX6_go 1 = .ok (.iconst 1, 1) := by decide +kernel
theorem dX6_go_2 : decode cX6_go 2 = .ok (.if_icmp .lt 9, 3) := by decide +kernel
theorem dX6_go_5 : decode cX6_go 5 = .ok (.iload_n 1, 1) := by decide +kernel
theorem dX6_go_6 : decode cX6_go 6 = .ok (.bipush 60, 2) := by decide +kernel
theorem dX6_go_8 : decode cX6_go 8 = .ok (.if_icmp .le 10, 3) := by decide +kernel
theorem dX6_go_11 : decode cX6_go 11 = .ok (.aload_n 0, 1) := by decide +kernel
theorem dX6_go_12 : decode cX6_go 12 = .ok (.ldc 59, 2) := by decide +kernel
theorem dX6_go_14 : decode cX6_go 14 = .ok (.invokevirtual 60, 3) := by decide +kernel
theorem dX6_go_17 : decode cX6_go 17 = .ok (.ireturn, 1) := by decide +kernel
theorem dX6_go_18 : decode cX6_go 18 = .ok (.aload_n 0, 1) := by decide +kernel
theorem dX6_go_19 : decode cX6_go 19 = .ok (.getfield 12, 3) := by decide +kernel
theorem dX6_go_22 : decode cX6_go 22 = .ok (.getfield 119, 3) := by decide +kernel
theorem dX6_go_25 : decode cX6_go 25 = .ok (.iload_n 1, 1) := by decide +kernel
theorem dX6_go_26 : decode cX6_go 26 = .ok (.iadd, 1) := by decide +kernel
theorem dX6_go_27 : decode cX6_go 27 = .ok (.ldc 122, 2) := by decide +kernel
theorem dX6_go_29 : decode cX6_go 29 = .ok (.if_icmp .le 10, 3) := by decide +kernel
theorem dX6_go_32 : decode cX6_go 32 = .ok (.aload_n 0, 1) := by decide +kernel
theorem dX6_go_33 : decode cX6_go 33 = .ok (.ldc 123, 2) := by decide +kernel
theorem dX6_go_35 : decode cX6_go 35 = .ok (.invokevirtual 60, 3) := by decide +kernel
theorem dX6_go_38 : decode cX6_go 38 = .ok (.ireturn, 1) := by decide +kernel
theorem dX6_go_39 : decode cX6_go 39 = .ok (.aload_n 0, 1) := by decide +kernel
theorem dX6_go_40 : decode cX6_go 40 = .ok (.getfield 12, 3) := by decide +kernel
theorem dX6_go_43 : decode cX6_go 43 = .ok (.iload_n 1, 1) := by decide +kernel
theorem dX6_go_44 : decode cX6_go 44 = .ok (.invokevirtual 124, 3) := by decide +kernel
theorem dX6_go_47 : decode cX6_go 47 = .ok (.aload_n 0, 1) := by decide +kernel
theorem dX6_go_48 : decode cX6_go 48 = .ok (.getfield 12, 3) := by decide +kernel
theorem dX6_go_51 : decode cX6_go 51 = .ok (.getfield 56, 3) := by decide +kernel
theorem dX6_go_54 : decode cX6_go 54 = .ok (.ireturn, 1) := by decide +kernel
theorem dX6_now_0 : decode cX6_now 0 = .ok (.iload_n 1, 1) := by decide +kernel
theorem dX6_now_1 : decode cX6_now 1 = .ok (.tableswitch 121 0 7 #[47, 55, 63, 71, 80, 89, 97, 106], 47) := by decide +kernel
theorem dX6_now_48 : decode cX6_now 48 = .ok (.aload_n 0, 1) := by decide +kernel
theorem dX6_now_49 : decode cX6_now 49 = .ok (.getfield 12, 3) := by decide +kernel
theorem dX6_now_52 : decode cX6_now 52 = .ok (.getfield 119, 3) := by decide +kernel
theorem dX6_now_55 : decode cX6_now 55 = .ok (.ireturn, 1) := by decide +kernel
theorem dX6_now_56 : decode cX6_now 56 = .ok (.aload_n 0, 1) := by decide +kernel
theorem dX6_now_57 : decode cX6_now 57 = .ok (.getfield 12, 3) := by decide +kernel
theorem dX6_now_60 : decode cX6_now 60 = .ok (.getfield 56, 3) := by decide +kernel
theorem dX6_now_63 : decode cX6_now 63 = .ok (.ireturn, 1) := by decide +kernel
theorem dX6_now_64 : decode cX6_now 64 = .ok (.aload_n 0, 1) := by decide +kernel
theorem dX6_now_65 : decode cX6_now 65 = .ok (.getfield 12, 3) := by decide +kernel
theorem dX6_now_68 : decode cX6_now 68 = .ok (.getfield 128, 3) := by decide +kernel
theorem dX6_now_71 : decode cX6_now 71 = .ok (.ireturn, 1) := by decide +kernel
theorem dX6_now_72 : decode cX6_now 72 = .ok (.aload_n 0, 1) := by decide +kernel
theorem dX6_now_73 : decode cX6_now 73 = .ok (.getfield 12, 3) := by decide +kernel
theorem dX6_now_76 : decode cX6_now 76 = .ok (.iconst 3, 1) := by decide +kernel
theorem dX6_now_77 : decode cX6_now 77 = .ok (.invokevirtual 131, 3) := by decide +kernel
theorem dX6_now_80 : decode cX6_now 80 = .ok (.ireturn, 1) := by decide +kernel
theorem dX6_now_81 : decode cX6_now 81 = .ok (.aload_n 0, 1) := by decide +kernel
theorem dX6_now_82 : decode cX6_now 82 = .ok (.getfield 12, 3) := by decide +kernel
theorem dX6_now_85 : decode cX6_now 85 = .ok (.iconst 1, 1) := by decide +kernel
theorem dX6_now_86 : decode cX6_now 86 = .ok (.invokevirtual 134, 3) := by decide +kernel
theorem dX6_now_89 : decode cX6_now 89 = .ok (.ireturn, 1) := by decide +kernel
theorem dX6_now_90 : decode cX6_now 90 = .ok (.aload_n 0, 1) := by decide +kernel
theorem dX6_now_91 : decode cX6_now 91 = .ok (.getfield 12, 3) := by decide +kernel
theorem dX6_now_94 : decode cX6_now 94 = .ok (.invokevirtual 137, 3) := by decide +kernel
theorem dX6_now_97 : decode cX6_now 97 = .ok (.ireturn, 1) := by decide +kernel
theorem dX6_now_98 : decode cX6_now 98 = .ok (.aload_n 0, 1) := by decide +kernel
theorem dX6_now_99 : decode cX6_now 99 = .ok (.getfield 12, 3) := by decide +kernel
theorem dX6_now_102 : decode cX6_now 102 = .ok (.iconst 5, 1) := by decide +kernel
theorem dX6_now_103 : decode cX6_now 103 = .ok (.invokevirtual 134, 3) := by decide +kernel
theorem dX6_now_106 : decode cX6_now 106 = .ok (.ireturn, 1) := by decide +kernel
theorem dX6_now_107 : decode cX6_now 107 = .ok (.sipush 255, 3) := by decide +kernel
theorem dX6_now_110 : decode cX6_now 110 = .ok (.aload_n 0, 1) := by decide +kernel
theorem dX6_now_111 : decode cX6_now 111 = .ok (.getfield 12, 3) := by decide +kernel
theorem dX6_now_114 : decode cX6_now 114 = .ok (.iconst 2, 1) := by decide +kernel
theorem dX6_now_115 : decode cX6_now 115 = .ok (.invokevirtual 131, 3) := by decide +kernel
theorem dX6_now_118 : decode cX6_now 118 = .ok (.iconst (-1), 1) := by decide +kernel
theorem dX6_now_119 : decode cX6_now 119 = .ok (.ixor, 1) := by decide +kernel
theorem dX6_now_120 : decode cX6_now 120 = .ok (.iand, 1) := by decide +kernel
theorem dX6_now_121 : decode cX6_now 121 = .ok (.ireturn, 1) := by decide +kernel
theorem dX6_now_122 : decode cX6_now 122 = .ok (.aload_n 0, 1) := by decide +kernel
theorem dX6_now_123 : decode cX6_now 123 = .ok (.ldc 59, 2) := by decide +kernel
theorem dX6_now_125 : decode cX6_now 125 = .ok (.invokevirtual 60, 3) := by decide +kernel
theorem dX6_now_128 : decode cX6_now 128 = .ok (.ireturn, 1) := by decide +kernel
theorem dX6_ahead_0 : decode cX6_ahead 0 = .ok (.aload_n 0, 1) := by decide +kernel
theorem dX6_ahead_1 : decode cX6_ahead 1 = .ok (.getfield 12, 3) := by decide +kernel
theorem dX6_ahead_4 : decode cX6_ahead 4 = .ok (.iload_n 1, 1) := by decide +kernel
theorem dX6_ahead_5 : decode cX6_ahead 5 = .ok (.invokevirtual 81, 3) := by decide +kernel
theorem dX6_ahead_8 : decode cX6_ahead 8 = .ok (.ifnull 19, 3) := by decide +kernel
theorem dX6_ahead_11 : decode cX6_ahead 11 = .ok (.iload_n 2, 1) := by decide +kernel
theorem dX6_ahead_12 : decode cX6_ahead 12 = .ok (.invokestatic 141, 3) := by decide +kernel
theorem dX6_ahead_15 : decode cX6_ahead 15 = .ok (.ifCond .eq 12, 3) := by decide +kernel
theorem dX6_ahead_18 : decode cX6_ahead 18 = .ok (.iload_n 3, 1) := by decide +kernel
theorem dX6_ahead_19 : decode cX6_ahead 19 = .ok (.bipush 100, 2) := by decide +kernel
theorem dX6_ahead_21 : decode cX6_ahead 21 = .ok (.invokestatic 48, 3) := by decide +kernel
theorem dX6_ahead_24 : decode cX6_ahead 24 = .ok (.ifCond .ne 10, 3) := by decide +kernel
theorem dX6_ahead_27 : decode cX6_ahead 27 = .ok (.aload_n 0, 1) := by decide +kernel
theorem dX6_ahead_28 : decode cX6_ahead 28 = .ok (.ldc 59, 2) := by decide +kernel
theorem dX6_ahead_30 : decode cX6_ahead 30 = .ok (.invokevirtual 60, 3) := by decide +kernel
theorem dX6_ahead_33 : decode cX6_ahead 33 = .ok (.ireturn, 1) := by decide +kernel
theorem dX6_ahead_34 : decode cX6_ahead 34 = .ok (.aload_n 0, 1) := by decide +kernel
theorem dX6_ahead_35 : decode cX6_ahead 35 = .ok (.getfield 26, 3) := by decide +kernel
theorem dX6_ahead_38 : decode cX6_ahead 38 = .ok (.aload_n 0, 1) := by decide +kernel
theorem dX6_ahead_39 : decode cX6_ahead 39 = .ok (.getfield 12, 3) := by decide +kernel
theorem dX6_ahead_42 : decode cX6_ahead 42 = .ok (.iload_n 1, 1) := by decide +kernel
theorem dX6_ahead_43 : decode cX6_ahead 43 = .ok (.iload_n 2, 1) := by decide +kernel
theorem dX6_ahead_44 : decode cX6_ahead 44 = .ok (.iload_n 3, 1) := by decide +kernel
theorem dX6_ahead_45 : decode cX6_ahead 45 = .ok (.invokevirtual 144, 3) := by decide +kernel
theorem dX6_ahead_48 : decode cX6_ahead 48 = .ok (.ireturn, 1) := by decide +kernel
theorem dX6_ill_0 : decode cX6_ill 0 = .ok (.aload_n 0, 1) := by decide +kernel
theorem dX6_ill_1 : decode cX6_ill 1 = .ok (.getfield 12, 3) := by decide +kernel
theorem dX6_ill_4 : decode cX6_ill 4 = .ok (.iload_n 1, 1) := by decide +kernel
theorem dX6_ill_5 : decode cX6_ill 5 = .ok (.invokevirtual 81, 3) := by decide +kernel
theorem dX6_ill_8 : decode cX6_ill 8 = .ok (.ifnull 22, 3) := by decide +kernel
theorem dX6_ill_11 : decode cX6_ill 11 = .ok (.aload_n 0, 1) := by decide +kernel
theorem dX6_ill_12 : decode cX6_ill 12 = .ok (.aload_n 0, 1) := by decide +kernel
theorem dX6_ill_13 : decode cX6_ill 13 = .ok (.getfield 26, 3) := by decide +kernel
theorem dX6_ill_16 : decode cX6_ill 16 = .ok (.aload_n 0, 1) := by decide +kernel
theorem dX6_ill_17 : decode cX6_ill 17 = .ok (.getfield 12, 3) := by decide +kernel
theorem dX6_ill_20 : decode cX6_ill 20 = .ok (.iload_n 1, 1) := by decide +kernel
theorem dX6_ill_21 : decode cX6_ill 21 = .ok (.invokevirtual 148, 3) := by decide +kernel
theorem dX6_ill_24 : decode cX6_ill 24 = .ok (.invokevirtual 112, 3) := by decide +kernel
theorem dX6_ill_27 : decode cX6_ill 27 = .ok (.goto 9, 3) := by decide +kernel
theorem dX6_ill_30 : decode cX6_ill 30 = .ok (.aload_n 0, 1) := by decide +kernel
theorem dX6_ill_31 : decode cX6_ill 31 = .ok (.ldc 59, 2) := by decide +kernel
theorem dX6_ill_33 : decode cX6_ill 33 = .ok (.invokevirtual 60, 3) := by decide +kernel
theorem dX6_ill_36 : decode cX6_ill 36 = .ok (.ireturn, 1) := by decide +kernel
theorem dX6_out_0 : decode cX6_out 0 = .ok (.iload_n 1, 1) := by decide +kernel
theorem dX6_out_1 : decode cX6_out 1 = .ok (.bipush 7, 2) := by decide +kernel
theorem dX6_out_3 : decode cX6_out 3 = .ok (.invokestatic 48, 3) := by decide +kernel
theorem dX6_out_6 : decode cX6_out 6 = .ok (.ifCond .eq 22, 3) := by decide +kernel
theorem dX6_out_9 : decode cX6_out 9 = .ok (.aload_n 0, 1) := by decide +kernel
theorem dX6_out_10 : decode cX6_out 10 = .ok (.aload_n 0, 1) := by decide +kernel
theorem dX6_out_11 : decode cX6_out 11 = .ok (.getfield 26, 3) := by decide +kernel
theorem dX6_out_14 : decode cX6_out 14 = .ok (.aload_n 0, 1) := by decide +kernel
theorem dX6_out_15 : decode cX6_out 15 = .ok (.getfield 12, 3) := by decide +kernel
theorem dX6_out_18 : decode cX6_out 18 = .ok (.iload_n 1, 1) := by decide +kernel
theorem dX6_out_19 : decode cX6_out 19 = .ok (.invokevirtual 152, 3) := by decide +kernel
theorem dX6_out_22 : decode cX6_out 22 = .ok (.invokevirtual 112, 3) := by decide +kernel
theorem dX6_out_25 : decode cX6_out 25 = .ok (.goto 9, 3) := by decide +kernel
theorem dX6_out_28 : decode cX6_out 28 = .ok (.aload_n 0, 1) := by decide +kernel
theorem dX6_out_29 : decode cX6_out 29 = .ok (.ldc 59, 2) := by decide +kernel
theorem dX6_out_31 : decode cX6_out 31 = .ok (.invokevirtual 60, 3) := by decide +kernel
theorem dX6_out_34 : decode cX6_out 34 = .ok (.ireturn, 1) := by decide +kernel
theorem dX6_wise_0 : decode cX6_wise 0 = .ok (.aload_n 0, 1) := by decide +kernel
theorem dX6_wise_1 : decode cX6_wise 1 = .ok (.getfield 12, 3) := by decide +kernel
theorem dX6_wise_4 : decode cX6_wise 4 = .ok (.iload_n 1, 1) := by decide +kernel
theorem dX6_wise_5 : decode cX6_wise 5 = .ok (.invokevirtual 81, 3) := by decide +kernel
theorem dX6_wise_8 : decode cX6_wise 8 = .ok (.ifnull 12, 3) := by decide +kernel
theorem dX6_wise_11 : decode cX6_wise 11 = .ok (.iload_n 2, 1) := by decide +kernel
theorem dX6_wise_12 : decode cX6_wise 12 = .ok (.bipush 8, 2) := by decide +kernel
theorem dX6_wise_14 : decode cX6_wise 14 = .ok (.invokestatic 48, 3) := by decide +kernel
theorem dX6_wise_17 : decode cX6_wise 17 = .ok (.ifCond .ne 10, 3) := by decide +kernel
theorem dX6_wise_20 : decode cX6_wise 20 = .ok (.aload_n 0, 1) := by decide +kernel
theorem dX6_wise_21 : decode cX6_wise 21 = .ok (.ldc 59, 2) := by decide +kernel
theorem dX6_wise_23 : decode cX6_wise 23 = .ok (.invokevirtual 60, 3) := by decide +kernel
theorem dX6_wise_26 : decode cX6_wise 26 = .ok (.ireturn, 1) := by decide +kernel
theorem dX6_wise_27 : decode cX6_wise 27 = .ok (.aload_n 0, 1) := by decide +kernel
theorem dX6_wise_28 : decode cX6_wise 28 = .ok (.aload_n 0, 1) := by decide +kernel
theorem dX6_wise_29 : decode cX6_wise 29 = .ok (.getfield 26, 3) := by decide +kernel
theorem dX6_wise_32 : decode cX6_wise 32 = .ok (.aload_n 0, 1) := by decide +kernel
theorem dX6_wise_33 : decode cX6_wise 33 = .ok (.getfield 12, 3) := by decide +kernel
theorem dX6_wise_36 : decode cX6_wise 36 = .ok (.iload_n 1, 1) := by decide +kernel
theorem dX6_wise_37 : decode cX6_wise 37 = .ok (.iload_n 2, 1) := by decide +kernel
theorem dX6_wise_38 : decode cX6_wise 38 = .ok (.invokevirtual 155, 3) := by decide +kernel
theorem dX6_wise_41 : decode cX6_wise 41 = .ok (.invokevirtual 112, 3) := by decide +kernel
theorem dX6_wise_44 : decode cX6_wise 44 = .ok (.ireturn, 1) := by decide +kernel
theorem dX6_when_0 : decode cX6_when 0 = .ok (.aload_n 0, 1) := by decide +kernel
theorem dX6_when_1 : decode cX6_when 1 = .ok (.getfield 12, 3) := by decide +kernel
theorem dX6_when_4 : decode cX6_when 4 = .ok (.iload_n 1, 1) := by decide +kernel
theorem dX6_when_5 : decode cX6_when 5 = .ok (.invokevirtual 81, 3) := by decide +kernel
theorem dX6_when_8 : decode cX6_when 8 = .ok (.ifnull 13, 3) := by decide +kernel
theorem dX6_when_11 : decode cX6_when 11 = .ok (.iload_n 2, 1) := by decide +kernel
theorem dX6_when_12 : decode cX6_when 12 = .ok (.sipush 999, 3) := by decide +kernel
theorem dX6_when_15 : decode cX6_when 15 = .ok (.invokestatic 48, 3) := by decide +kernel
theorem dX6_when_18 : decode cX6_when 18 = .ok (.ifCond .ne 10, 3) := by decide +kernel
theorem dX6_when_21 : decode cX6_when 21 = .ok (.aload_n 0, 1) := by decide +kernel
theorem dX6_when_22 : decode cX6_when 22 = .ok (.ldc 59, 2) := by decide +kernel
theorem dX6_when_24 : decode cX6_when 24 = .ok (.invokevirtual 60, 3) := by decide +kernel
theorem dX6_when_27 : decode cX6_when 27 = .ok (.ireturn, 1) := by decide +kernel
theorem dX6_when_28 : decode cX6_when 28 = .ok (.aload_n 0, 1) := by decide +kernel
theorem dX6_when_29 : decode cX6_when 29 = .ok (.aload_n 0, 1) := by decide +kernel
theorem dX6_when_30 : decode cX6_when 30 = .ok (.getfield 26, 3) := by decide +kernel
theorem dX6_when_33 : decode cX6_when 33 = .ok (.aload_n 0, 1) := by decide +kernel
theorem dX6_when_34 : decode cX6_when 34 = .ok (.getfield 12, 3) := by decide +kernel
theorem dX6_when_37 : decode cX6_when 37 = .ok (.iload_n 1, 1) := by decide +kernel
theorem dX6_when_38 : decode cX6_when 38 = .ok (.iload_n 2, 1) := by decide +kernel
theorem dX6_when_39 : decode cX6_when 39 = .ok (.invokevirtual 159, 3) := by decide +kernel
theorem dX6_when_42 : decode cX6_when 42 = .ok (.invokevirtual 112, 3) := by decide +kernel
theorem dX6_when_45 : decode cX6_when 45 = .ok (.ireturn, 1) := by decide +kernel
theorem dX6_wordsFor_0 : decode cX6_wordsFor 0 = .ok (.iload_n 1, 1) := by decide +kernel
theorem dX6_wordsFor_1 : decode cX6_wordsFor 1 = .ok (.iconst 5, 1) := by decide +kernel
theorem dX6_wordsFor_2 : decode cX6_wordsFor 2 = .ok (.invokestatic 48, 3) := by decide +kernel
theorem dX6_wordsFor_5 : decode cX6_wordsFor 5 = .ok (.ifCond .eq 12, 3) := by decide +kernel
theorem dX6_wordsFor_8 : decode cX6_wordsFor 8 = .ok (.iload_n 2, 1) := by decide +kernel
theorem dX6_wordsFor_9 : decode cX6_wordsFor 9 = .ok (.bipush 60, 2) := by decide +kernel
theorem dX6_wordsFor_11 : decode cX6_wordsFor 11 = .ok (.invokestatic 48, 3) := by decide +kernel
theorem dX6_wordsFor_14 : decode cX6_wordsFor 14 = .ok (.ifCond .ne 10, 3) := by decide +kernel
theorem dX6_wordsFor_17 : decode cX6_wordsFor 17 = .ok (.aload_n 0, 1) := by decide +kernel
theorem dX6_wordsFor_18 : decode cX6_wordsFor 18 = .ok (.ldc 59, 2) := by decide +kernel
theorem dX6_wordsFor_20 : decode cX6_wordsFor 20 = .ok (.invokevirtual 60, 3) := by decide +kernel
theorem dX6_wordsFor_23 : decode cX6_wordsFor 23 = .ok (.ireturn, 1) := by decide +kernel
theorem dX6_wordsFor_24 : decode cX6_wordsFor 24 = .ok (.aload_n 0, 1) := by decide +kernel
theorem dX6_wordsFor_25 : decode cX6_wordsFor 25 = .ok (.aload_n 0, 1) := by decide +kernel
theorem dX6_wordsFor_26 : decode cX6_wordsFor 26 = .ok (.getfield 26, 3) := by decide +kernel
theorem dX6_wordsFor_29 : decode cX6_wordsFor 29 = .ok (.aload_n 0, 1) := by decide +kernel
theorem dX6_wordsFor_30 : decode cX6_wordsFor 30 = .ok (.getfield 12, 3) := by decide +kernel
theorem dX6_wordsFor_33 : decode cX6_wordsFor 33 = .ok (.iload_n 1, 1) := by decide +kernel
theorem dX6_wordsFor_34 : decode cX6_wordsFor 34 = .ok (.iload_n 2, 1) := by decide +kernel
theorem dX6_wordsFor_35 : decode cX6_wordsFor 35 = .ok (.invokevirtual 162, 3) := by decide +kernel
theorem dX6_wordsFor_38 : decode cX6_wordsFor 38 = .ok (.invokevirtual 112, 3) := by decide +kernel
theorem dX6_wordsFor_41 : decode cX6_wordsFor 41 = .ok (.ireturn, 1) := by decide +kernel
theorem dX6_waterFor_0 : decode cX6_waterFor 0 = .ok (.iload_n 1, 1) := by decide +kernel
theorem dX6_waterFor_1 : decode cX6_waterFor 1 = .ok (.bipush 60, 2) := by decide +kernel
theorem dX6_waterFor_3 : decode cX6_waterFor 3 = .ok (.invokestatic 48, 3) := by decide +kernel
theorem dX6_waterFor_6 : decode cX6_waterFor 6 = .ok (.ifCond .eq 22, 3) := by decide +kernel
theorem dX6_waterFor_9 : decode cX6_waterFor 9 = .ok (.aload_n 0, 1) := by decide +kernel
theorem dX6_waterFor_10 : decode cX6_waterFor 10 = .ok (.aload_n 0, 1) := by decide +kernel
theorem dX6_waterFor_11 : decode cX6_waterFor 11 = .ok (.getfield 26, 3) := by decide +kernel
theorem dX6_waterFor_14 : decode cX6_waterFor 14 = .ok (.aload_n 0, 1) := by decide +kernel
theorem dX6_waterFor_15 : decode cX6_waterFor 15 = .ok (.getfield 12, 3) := by decide +kernel
theorem dX6_waterFor_18 : decode cX6_waterFor 18 = .ok (.iload_n 1, 1) := by decide +kernel
theorem dX6_waterFor_19 : decode cX6_waterFor 19 = .ok (.invokevirtual 165, 3) := by decide +kernel
theorem dX6_waterFor_22 : decode cX6_waterFor 22 = .ok (.invokevirtual 112, 3) := by decide +kernel
theorem dX6_waterFor_25 : decode cX6_waterFor 25 = .ok (.goto 9, 3) := by decide +kernel
theorem dX6_waterFor_28 : decode cX6_waterFor 28 = .ok (.aload_n 0, 1) := by decide +kernel
theorem dX6_waterFor_29 : decode cX6_waterFor 29 = .ok (.ldc 59, 2) := by decide +kernel
theorem dX6_waterFor_31 : decode cX6_waterFor 31 = .ok (.invokevirtual 60, 3) := by decide +kernel
theorem dX6_waterFor_34 : decode cX6_waterFor 34 = .ok (.ireturn, 1) := by decide +kernel
theorem dX6_spare_0 : decode cX6_spare 0 = .ok (.aload_n 0, 1) := by decide +kernel
theorem dX6_spare_1 : decode cX6_spare 1 = .ok (.getfield 12, 3) := by decide +kernel
theorem dX6_spare_4 : decode cX6_spare 4 = .ok (.iload_n 1, 1) := by decide +kernel
theorem dX6_spare_5 : decode cX6_spare 5 = .ok (.invokevirtual 81, 3) := by decide +kernel
theorem dX6_spare_8 : decode cX6_spare 8 = .ok (.ifnull 12, 3) := by decide +kernel
theorem dX6_spare_11 : decode cX6_spare 11 = .ok (.iload_n 2, 1) := by decide +kernel
theorem dX6_spare_12 : decode cX6_spare 12 = .ok (.bipush 60, 2) := by decide +kernel
theorem dX6_spare_14 : decode cX6_spare 14 = .ok (.invokestatic 48, 3) := by decide +kernel
theorem dX6_spare_17 : decode cX6_spare 17 = .ok (.ifCond .ne 10, 3) := by decide +kernel
theorem dX6_spare_20 : decode cX6_spare 20 = .ok (.aload_n 0, 1) := by decide +kernel
theorem dX6_spare_21 : decode cX6_spare 21 = .ok (.ldc 59, 2) := by decide +kernel
theorem dX6_spare_23 : decode cX6_spare 23 = .ok (.invokevirtual 60, 3) := by decide +kernel
theorem dX6_spare_26 : decode cX6_spare 26 = .ok (.ireturn, 1) := by decide +kernel
theorem dX6_spare_27 : decode cX6_spare 27 = .ok (.aload_n 0, 1) := by decide +kernel
theorem dX6_spare_28 : decode cX6_spare 28 = .ok (.getfield 26, 3) := by decide +kernel
theorem dX6_spare_31 : decode cX6_spare 31 = .ok (.aload_n 0, 1) := by decide +kernel
theorem dX6_spare_32 : decode cX6_spare 32 = .ok (.getfield 12, 3) := by decide +kernel
theorem dX6_spare_35 : decode cX6_spare 35 = .ok (.iload_n 1, 1) := by decide +kernel
theorem dX6_spare_36 : decode cX6_spare 36 = .ok (.iload_n 2, 1) := by decide +kernel
theorem dX6_spare_37 : decode cX6_spare 37 = .ok (.invokevirtual 168, 3) := by decide +kernel
theorem dX6_spare_40 : decode cX6_spare 40 = .ok (.ireturn, 1) := by decide +kernel
theorem dX6_kindFor_0 : decode cX6_kindFor 0 = .ok (.aload_n 0, 1) := by decide +kernel
theorem dX6_kindFor_1 : decode cX6_kindFor 1 = .ok (.getfield 12, 3) := by decide +kernel
theorem dX6_kindFor_4 : decode cX6_kindFor 4 = .ok (.iload_n 1, 1) := by decide +kernel
theorem dX6_kindFor_5 : decode cX6_kindFor 5 = .ok (.invokevirtual 81, 3) := by decide +kernel
theorem dX6_kindFor_8 : decode cX6_kindFor 8 = .ok (.ifnull 12, 3) := by decide +kernel
theorem dX6_kindFor_11 : decode cX6_kindFor 11 = .ok (.iload_n 2, 1) := by decide +kernel
theorem dX6_kindFor_12 : decode cX6_kindFor 12 = .ok (.bipush 60, 2) := by decide +kernel
theorem dX6_kindFor_14 : decode cX6_kindFor 14 = .ok (.invokestatic 48, 3) := by decide +kernel
theorem dX6_kindFor_17 : decode cX6_kindFor 17 = .ok (.ifCond .ne 10, 3) := by decide +kernel
theorem dX6_kindFor_20 : decode cX6_kindFor 20 = .ok (.aload_n 0, 1) := by decide +kernel
theorem dX6_kindFor_21 : decode cX6_kindFor 21 = .ok (.ldc 59, 2) := by decide +kernel
theorem dX6_kindFor_23 : decode cX6_kindFor 23 = .ok (.invokevirtual 60, 3) := by decide +kernel
theorem dX6_kindFor_26 : decode cX6_kindFor 26 = .ok (.ireturn, 1) := by decide +kernel
theorem dX6_kindFor_27 : decode cX6_kindFor 27 = .ok (.aload_n 0, 1) := by decide +kernel
theorem dX6_kindFor_28 : decode cX6_kindFor 28 = .ok (.getfield 26, 3) := by decide +kernel
theorem dX6_kindFor_31 : decode cX6_kindFor 31 = .ok (.aload_n 0, 1) := by decide +kernel
theorem dX6_kindFor_32 : decode cX6_kindFor 32 = .ok (.getfield 12, 3) := by decide +kernel
theorem dX6_kindFor_35 : decode cX6_kindFor 35 = .ok (.iload_n 1, 1) := by decide +kernel
theorem dX6_kindFor_36 : decode cX6_kindFor 36 = .ok (.iload_n 2, 1) := by decide +kernel
theorem dX6_kindFor_37 : decode cX6_kindFor 37 = .ok (.invokevirtual 171, 3) := by decide +kernel
theorem dX6_kindFor_40 : decode cX6_kindFor 40 = .ok (.ireturn, 1) := by decide +kernel
theorem dX6_fast_0 : decode cX6_fast 0 = .ok (.iload_n 1, 1) := by decide +kernel
theorem dX6_fast_1 : decode cX6_fast 1 = .ok (.bipush 20, 2) := by decide +kernel
theorem dX6_fast_3 : decode cX6_fast 3 = .ok (.invokestatic 48, 3) := by decide +kernel
theorem dX6_fast_6 : decode cX6_fast 6 = .ok (.ifCond .eq 22, 3) := by decide +kernel
theorem dX6_fast_9 : decode cX6_fast 9 = .ok (.aload_n 0, 1) := by decide +kernel
theorem dX6_fast_10 : decode cX6_fast 10 = .ok (.aload_n 0, 1) := by decide +kernel
theorem dX6_fast_11 : decode cX6_fast 11 = .ok (.getfield 26, 3) := by decide +kernel
theorem dX6_fast_14 : decode cX6_fast 14 = .ok (.aload_n 0, 1) := by decide +kernel
theorem dX6_fast_15 : decode cX6_fast 15 = .ok (.getfield 12, 3) := by decide +kernel
theorem dX6_fast_18 : decode cX6_fast 18 = .ok (.iload_n 1, 1) := by decide +kernel
theorem dX6_fast_19 : decode cX6_fast 19 = .ok (.invokevirtual 174, 3) := by decide +kernel
theorem dX6_fast_22 : decode cX6_fast 22 = .ok (.invokevirtual 112, 3) := by decide +kernel
theorem dX6_fast_25 : decode cX6_fast 25 = .ok (.goto 9, 3) := by decide +kernel
theorem dX6_fast_28 : decode cX6_fast 28 = .ok (.aload_n 0, 1) := by decide +kernel
theorem dX6_fast_29 : decode cX6_fast 29 = .ok (.ldc 59, 2) := by decide +kernel
theorem dX6_fast_31 : decode cX6_fast 31 = .ok (.invokevirtual 60, 3) := by decide +kernel
theorem dX6_fast_34 : decode cX6_fast 34 = .ok (.ireturn, 1) := by decide +kernel
theorem dX6_cover_0 : decode cX6_cover 0 = .ok (.iload_n 1, 1) := by decide +kernel
theorem dX6_cover_1 : decode cX6_cover 1 = .ok (.sipush 255, 3) := by decide +kernel
theorem dX6_cover_4 : decode cX6_cover 4 = .ok (.invokestatic 48, 3) := by decide +kernel
theorem dX6_cover_7 : decode cX6_cover 7 = .ok (.ifCond .eq 18, 3) := by decide +kernel
theorem dX6_cover_10 : decode cX6_cover 10 = .ok (.aload_n 0, 1) := by decide +kernel
theorem dX6_cover_11 : decode cX6_cover 11 = .ok (.aload_n 0, 1) := by decide +kernel
theorem dX6_cover_12 : decode cX6_cover 12 = .ok (.getfield 12, 3) := by decide +kernel
theorem dX6_cover_15 : decode cX6_cover 15 = .ok (.iload_n 1, 1) := by decide +kernel
theorem dX6_cover_16 : decode cX6_cover 16 = .ok (.invokevirtual 177, 3) := by decide +kernel
theorem dX6_cover_19 : decode cX6_cover 19 = .ok (.invokevirtual 112, 3) := by decide +kernel
theorem dX6_cover_22 : decode cX6_cover 22 = .ok (.goto 9, 3) := by decide +kernel
theorem dX6_cover_25 : decode cX6_cover 25 = .ok (.aload_n 0, 1) := by decide +kernel
theorem dX6_cover_26 : decode cX6_cover 26 = .ok (.ldc 59, 2) := by decide +kernel
theorem dX6_cover_28 : decode cX6_cover 28 = .ok (.invokevirtual 60, 3) := by decide +kernel
theorem dX6_cover_31 : decode cX6_cover 31 = .ok (.ireturn, 1) := by decide +kernel
theorem dX6_fits_0 : decode cX6_fits 0 = .ok (.aload_n 0, 1) := by decide +kernel
theorem dX6_fits_1 : decode cX6_fits 1 = .ok (.iload_n 1, 1) := by decide +kernel
theorem dX6_fits_2 : decode cX6_fits 2 = .ok (.invokevirtual 180, 3) := by decide +kernel
theorem dX6_fits_5 : decode cX6_fits 5 = .ok (.astore_n 3, 1) := by decide +kernel
theorem dX6_fits_6 : decode cX6_fits 6 = .ok (.aload_n 0, 1) := by decide +kernel
theorem dX6_fits_7 : decode cX6_fits 7 = .ok (.aload_n 3, 1) := by decide +kernel
theorem dX6_fits_8 : decode cX6_fits 8 = .ok (.iload_n 2, 1) := by decide +kernel
theorem dX6_fits_9 : decode cX6_fits 9 = .ok (.invokevirtual 184, 3) := by decide +kernel
theorem dX6_fits_12 : decode cX6_fits 12 = .ok (.istore 4, 2) := by decide +kernel
theorem dX6_fits_14 : decode cX6_fits 14 = .ok (.iload 4, 2) := by decide +kernel
theorem dX6_fits_16 : decode cX6_fits 16 = .ok (.ifCond .ne 22, 3) := by decide +kernel
theorem dX6_fits_19 : decode cX6_fits 19 = .ok (.aload_n 0, 1) := by decide +kernel
theorem dX6_fits_20 : decode cX6_fits 20 = .ok (.getfield 26, 3) := by decide +kernel
theorem dX6_fits_23 : decode cX6_fits 23 = .ok (.aload_n 0, 1) := by decide +kernel
theorem dX6_fits_24 : decode cX6_fits 24 = .ok (.getfield 12, 3) := by decide +kernel
theorem dX6_fits_27 : decode cX6_fits 27 = .ok (.iload_n 2, 1) := by decide +kernel
theorem dX6_fits_28 : decode cX6_fits 28 = .ok (.aload_n 3, 1) := by decide +kernel
theorem dX6_fits_29 : decode cX6_fits 29 = .ok (.invokevirtual 188, 3) := by decide +kernel
theorem dX6_fits_32 : decode cX6_fits 32 = .ok (.invokestatic 192, 3) := by decide +kernel
theorem dX6_fits_35 : decode cX6_fits 35 = .ok (.goto 9, 3) := by decide +kernel
theorem dX6_fits_38 : decode cX6_fits 38 = .ok (.aload_n 0, 1) := by decide +kernel
theorem dX6_fits_39 : decode cX6_fits 39 = .ok (.iload 4, 2) := by decide +kernel
theorem dX6_fits_41 : decode cX6_fits 41 = .ok (.invokevirtual 60, 3) := by decide +kernel
theorem dX6_fits_44 : decode cX6_fits 44 = .ok (.ireturn, 1) := by decide +kernel
theorem dX6_words_0 : decode cX6_words 0 = .ok (.aload_n 0, 1) := by decide +kernel
theorem dX6_words_1 : decode cX6_words 1 = .ok (.iload_n 1, 1) := by decide +kernel
theorem dX6_words_2 : decode cX6_words 2 = .ok (.invokevirtual 180, 3) := by decide +kernel
theorem dX6_words_5 : decode cX6_words 5 = .ok (.astore_n 3, 1) := by decide +kernel
theorem dX6_words_6 : decode cX6_words 6 = .ok (.aload_n 0, 1) := by decide +kernel
theorem dX6_words_7 : decode cX6_words 7 = .ok (.aload_n 3, 1) := by decide +kernel
theorem dX6_words_8 : decode cX6_words 8 = .ok (.iload_n 2, 1) := by decide +kernel
theorem dX6_words_9 : decode cX6_words 9 = .ok (.invokevirtual 184, 3) := by decide +kernel
theorem dX6_words_12 : decode cX6_words 12 = .ok (.istore 4, 2) := by decide +kernel
theorem dX6_words_14 : decode cX6_words 14 = .ok (.iload 4, 2) := by decide +kernel
theorem dX6_words_16 : decode cX6_words 16 = .ok (.ifCond .eq 10, 3) := by decide +kernel
theorem dX6_words_19 : decode cX6_words 19 = .ok (.aload_n 0, 1) := by decide +kernel
theorem dX6_words_20 : decode cX6_words 20 = .ok (.iload 4, 2) := by decide +kernel
theorem dX6_words_22 : decode cX6_words 22 = .ok (.invokevirtual 60, 3) := by decide +kernel
theorem dX6_words_25 : decode cX6_words 25 = .ok (.ireturn, 1) := by decide +kernel
theorem dX6_words_26 : decode cX6_words 26 = .ok (.aload_n 0, 1) := by decide +kernel
theorem dX6_words_27 : decode cX6_words 27 = .ok (.getfield 26, 3) := by decide +kernel
theorem dX6_words_30 : decode cX6_words 30 = .ok (.aload_n 0, 1) := by decide +kernel
theorem dX6_words_31 : decode cX6_words 31 = .ok (.getfield 12, 3) := by decide +kernel
theorem dX6_words_34 : decode cX6_words 34 = .ok (.iload_n 2, 1) := by decide +kernel
theorem dX6_words_35 : decode cX6_words 35 = .ok (.aload_n 3, 1) := by decide +kernel
theorem dX6_words_36 : decode cX6_words 36 = .ok (.invokevirtual 188, 3) := by decide +kernel
theorem dX6_words_39 : decode cX6_words 39 = .ok (.lstore 5, 2) := by decide +kernel
theorem dX6_words_41 : decode cX6_words 41 = .ok (.iconst 0, 1) := by decide +kernel
theorem dX6_words_42 : decode cX6_words 42 = .ok (.istore 7, 2) := by decide +kernel
theorem dX6_words_44 : decode cX6_words 44 = .ok (.iload 7, 2) := by decide +kernel
theorem dX6_words_46 : decode cX6_words 46 = .ok (.bipush 40, 2) := by decide +kernel
theorem dX6_words_48 : decode cX6_words 48 = .ok (.if_icmp .gt 24, 3) := by decide +kernel
theorem dX6_words_51 : decode cX6_words 51 = .ok (.lload 5, 2) := by decide +kernel
theorem dX6_words_53 : decode cX6_words 53 = .ok (.iload 7, 2) := by decide +kernel
theorem dX6_words_55 : decode cX6_words 55 = .ok (.lshr, 1) := by decide +kernel
theorem dX6_words_56 : decode cX6_words 56 = .ok (.lconst 1, 1) := by decide +kernel
theorem dX6_words_57 : decode cX6_words 57 = .ok (.land, 1) := by decide +kernel
theorem dX6_words_58 : decode cX6_words 58 = .ok (.lconst 0, 1) := by decide +kernel
theorem dX6_words_59 : decode cX6_words 59 = .ok (.lcmp, 1) := by decide +kernel
theorem dX6_words_60 : decode cX6_words 60 = .ok (.ifCond .eq 6, 3) := by decide +kernel
theorem dX6_words_63 : decode cX6_words 63 = .ok (.iload 7, 2) := by decide +kernel
theorem dX6_words_65 : decode cX6_words 65 = .ok (.ireturn, 1) := by decide +kernel
theorem dX6_words_66 : decode cX6_words 66 = .ok (.iinc 7 1, 3) := by decide +kernel
theorem dX6_words_69 : decode cX6_words 69 = .ok (.goto (-25), 3) := by decide +kernel
theorem dX6_words_72 : decode cX6_words 72 = .ok (.aload_n 0, 1) := by decide +kernel
theorem dX6_words_73 : decode cX6_words 73 = .ok (.ldc 198, 2) := by decide +kernel
theorem dX6_words_75 : decode cX6_words 75 = .ok (.invokevirtual 60, 3) := by decide +kernel
theorem dX6_words_78 : decode cX6_words 78 = .ok (.ireturn, 1) := by decide +kernel
theorem dX6_kinds_0 : decode cX6_kinds 0 = .ok (.aload_n 0, 1) := by decide +kernel
theorem dX6_kinds_1 : decode cX6_kinds 1 = .ok (.iload_n 1, 1) := by decide +kernel
theorem dX6_kinds_2 : decode cX6_kinds 2 = .ok (.invokevirtual 180, 3) := by decide +kernel
theorem dX6_kinds_5 : decode cX6_kinds 5 = .ok (.astore_n 3, 1) := by decide +kernel
theorem dX6_kinds_6 : decode cX6_kinds 6 = .ok (.aload_n 0, 1) := by decide +kernel
theorem dX6_kinds_7 : decode cX6_kinds 7 = .ok (.aload_n 3, 1) := by decide +kernel
theorem dX6_kinds_8 : decode cX6_kinds 8 = .ok (.iload_n 2, 1) := by decide +kernel
theorem dX6_kinds_9 : decode cX6_kinds 9 = .ok (.invokevirtual 184, 3) := by decide +kernel
theorem dX6_kinds_12 : decode cX6_kinds 12 = .ok (.istore 4, 2) := by decide +kernel
theorem dX6_kinds_14 : decode cX6_kinds 14 = .ok (.iload 4, 2) := by decide +kernel
theorem dX6_kinds_16 : decode cX6_kinds 16 = .ok (.ifCond .ne 19, 3) := by decide +kernel
theorem dX6_kinds_19 : decode cX6_kinds 19 = .ok (.aload_n 0, 1) := by decide +kernel
theorem dX6_kinds_20 : decode cX6_kinds 20 = .ok (.getfield 26, 3) := by decide +kernel
theorem dX6_kinds_23 : decode cX6_kinds 23 = .ok (.aload_n 0, 1) := by decide +kernel
theorem dX6_kinds_24 : decode cX6_kinds 24 = .ok (.getfield 12, 3) := by decide +kernel
theorem dX6_kinds_27 : decode cX6_kinds 27 = .ok (.iload_n 2, 1) := by decide +kernel
theorem dX6_kinds_28 : decode cX6_kinds 28 = .ok (.aload_n 3, 1) := by decide +kernel
theorem dX6_kinds_29 : decode cX6_kinds 29 = .ok (.invokevirtual 199, 3) := by decide +kernel
theorem dX6_kinds_32 : decode cX6_kinds 32 = .ok (.goto 9, 3) := by decide +kernel
theorem dX6_kinds_35 : decode cX6_kinds 35 = .ok (.aload_n 0, 1) := by decide +kernel
theorem dX6_kinds_36 : decode cX6_kinds 36 = .ok (.iload 4, 2) := by decide +kernel
theorem dX6_kinds_38 : decode cX6_kinds 38 = .ok (.invokevirtual 60, 3) := by decide +kernel
theorem dX6_kinds_41 : decode cX6_kinds 41 = .ok (.ireturn, 1) := by decide +kernel
theorem dX6_come_0 : decode cX6_come 0 = .ok (.iload_n 1, 1) := by decide +kernel
theorem dX6_come_1 : decode cX6_come 1 = .ok (.iconst 1, 1) := by decide +kernel
theorem dX6_come_2 : decode cX6_come 2 = .ok (.if_icmp .lt 9, 3) := by decide +kernel
theorem dX6_come_5 : decode cX6_come 5 = .ok (.iload_n 1, 1) := by decide +kernel
theorem dX6_come_6 : decode cX6_come 6 = .ok (.bipush 20, 2) := by decide +kernel
theorem dX6_come_8 : decode cX6_come 8 = .ok (.if_icmp .le 10, 3) := by decide +kernel
theorem dX6_come_11 : decode cX6_come 11 = .ok (.aload_n 0, 1) := by decide +kernel
theorem dX6_come_12 : decode cX6_come 12 = .ok (.ldc 59, 2) := by decide +kernel
theorem dX6_come_14 : decode cX6_come 14 = .ok (.invokevirtual 60, 3) := by decide +kernel
theorem dX6_come_17 : decode cX6_come 17 = .ok (.ireturn, 1) := by decide +kernel
theorem dX6_come_18 : decode cX6_come 18 = .ok (.aload_n 0, 1) := by decide +kernel
theorem dX6_come_19 : decode cX6_come 19 = .ok (.getfield 12, 3) := by decide +kernel
theorem dX6_come_22 : decode cX6_come 22 = .ok (.getfield 119, 3) := by decide +kernel
theorem dX6_come_25 : decode cX6_come 25 = .ok (.iload_n 1, 1) := by decide +kernel
theorem dX6_come_26 : decode cX6_come 26 = .ok (.iadd, 1) := by decide +kernel
theorem dX6_come_27 : decode cX6_come 27 = .ok (.ldc 122, 2) := by decide +kernel
theorem dX6_come_29 : decode cX6_come 29 = .ok (.if_icmp .le 10, 3) := by decide +kernel
theorem dX6_come_32 : decode cX6_come 32 = .ok (.aload_n 0, 1) := by decide +kernel
theorem dX6_come_33 : decode cX6_come 33 = .ok (.ldc 123, 2) := by decide +kernel
theorem dX6_come_35 : decode cX6_come 35 = .ok (.invokevirtual 60, 3) := by decide +kernel
theorem dX6_come_38 : decode cX6_come 38 = .ok (.ireturn, 1) := by decide +kernel
theorem dX6_come_39 : decode cX6_come 39 = .ok (.iconst 0, 1) := by decide +kernel
theorem dX6_come_40 : decode cX6_come 40 = .ok (.istore_n 2, 1) := by decide +kernel
theorem dX6_come_41 : decode cX6_come 41 = .ok (.iload_n 2, 1) := by decide +kernel
theorem dX6_come_42 : decode cX6_come 42 = .ok (.iload_n 1, 1) := by decide +kernel
theorem dX6_come_43 : decode cX6_come 43 = .ok (.if_icmp .ge 60, 3) := by decide +kernel
theorem dX6_come_46 : decode cX6_come 46 = .ok (.aload_n 0, 1) := by decide +kernel
theorem dX6_come_47 : decode cX6_come 47 = .ok (.getfield 12, 3) := by decide +kernel
theorem dX6_come_50 : decode cX6_come 50 = .ok (.invokevirtual 203, 3) := by decide +kernel
theorem dX6_come_53 : decode cX6_come 53 = .ok (.bipush 8, 2) := by decide +kernel
theorem dX6_come_55 : decode cX6_come 55 = .ok (.irem, 1) := by decide +kernel
theorem dX6_come_56 : decode cX6_come 56 = .ok (.istore_n 3, 1) := by decide +kernel
theorem dX6_come_57 : decode cX6_come 57 = .ok (.aload_n 0, 1) := by decide +kernel
theorem dX6_come_58 : decode cX6_come 58 = .ok (.getfield 12, 3) := by decide +kernel
theorem dX6_come_61 : decode cX6_come 61 = .ok (.invokevirtual 203, 3) := by decide +kernel
theorem dX6_come_64 : decode cX6_come 64 = .ok (.bipush 41, 2) := by decide +kernel
theorem dX6_come_66 : decode cX6_come 66 = .ok (.irem, 1) := by decide +kernel
theorem dX6_come_67 : decode cX6_come 67 = .ok (.istore 4, 2) := by decide +kernel
theorem dX6_come_69 : decode cX6_come 69 = .ok (.aload_n 0, 1) := by decide +kernel
theorem dX6_come_70 : decode cX6_come 70 = .ok (.getfield 12, 3) := by decide +kernel
theorem dX6_come_73 : decode cX6_come 73 = .ok (.getfield 68, 3) := by decide +kernel
theorem dX6_come_76 : decode cX6_come 76 = .ok (.aload_n 0, 1) := by decide +kernel
theorem dX6_come_77 : decode cX6_come 77 = .ok (.getfield 12, 3) := by decide +kernel
theorem dX6_come_80 : decode cX6_come 80 = .ok (.invokevirtual 206, 3) := by decide +kernel
theorem dX6_come_83 : decode cX6_come 83 = .ok (.iload_n 3, 1) := by decide +kernel
theorem dX6_come_84 : decode cX6_come 84 = .ok (.iload 4, 2) := by decide +kernel
theorem dX6_come_86 : decode cX6_come 86 = .ok (.invokestatic 209, 3) := by decide +kernel
theorem dX6_come_89 : decode cX6_come 89 = .ok (.iastore, 1) := by decide +kernel
theorem dX6_come_90 : decode cX6_come 90 = .ok (.aload_n 0, 1) := by decide +kernel
theorem dX6_come_91 : decode cX6_come 91 = .ok (.getfield 12, 3) := by decide +kernel
theorem dX6_come_94 : decode cX6_come 94 = .ok (.invokevirtual 212, 3) := by decide +kernel
theorem dX6_come_97 : decode cX6_come 97 = .ok (.iinc 2 1, 3) := by decide +kernel
theorem dX6_come_100 : decode cX6_come 100 = .ok (.goto (-59), 3) := by decide +kernel
theorem dX6_come_103 : decode cX6_come 103 = .ok (.aload_n 0, 1) := by decide +kernel
theorem dX6_come_104 : decode cX6_come 104 = .ok (.getfield 12, 3) := by decide +kernel
theorem dX6_come_107 : decode cX6_come 107 = .ok (.getfield 56, 3) := by decide +kernel
theorem dX6_come_110 : decode cX6_come 110 = .ok (.ireturn, 1) := by decide +kernel
theorem dX6_odds_0 : decode cX6_odds 0 = .ok (.aload_n 0, 1) := by decide +kernel
theorem dX6_odds_1 : decode cX6_odds 1 = .ok (.getfield 12, 3) := by decide +kernel
theorem dX6_odds_4 : decode cX6_odds 4 = .ok (.iload_n 1, 1) := by decide +kernel
theorem dX6_odds_5 : decode cX6_odds 5 = .ok (.invokevirtual 81, 3) := by decide +kernel
theorem dX6_odds_8 : decode cX6_odds 8 = .ok (.astore 4, 2) := by decide +kernel
theorem dX6_odds_10 : decode cX6_odds 10 = .ok (.aload 4, 2) := by decide +kernel
theorem dX6_odds_12 : decode cX6_odds 12 = .ok (.ifnull 20, 3) := by decide +kernel
theorem dX6_odds_15 : decode cX6_odds 15 = .ok (.iload_n 2, 1) := by decide +kernel
theorem dX6_odds_16 : decode cX6_odds 16 = .ok (.bipush 20, 2) := by decide +kernel
theorem dX6_odds_18 : decode cX6_odds 18 = .ok (.invokestatic 48, 3) := by decide +kernel
theorem dX6_odds_21 : decode cX6_odds 21 = .ok (.ifCond .eq 11, 3) := by decide +kernel
theorem dX6_odds_24 : decode cX6_odds 24 = .ok (.iload_n 3, 1) := by decide +kernel
theorem dX6_odds_25 : decode cX6_odds 25 = .ok (.iconst 1, 1) := by decide +kernel
theorem dX6_odds_26 : decode cX6_odds 26 = .ok (.invokestatic 48, 3) := by decide +kernel
theorem dX6_odds_29 : decode cX6_odds 29 = .ok (.ifCond .ne 11, 3) := by decide +kernel
theorem dX6_odds_32 : decode cX6_odds 32 = .ok (.aload_n 0, 1) := by decide +kernel
theorem dX6_odds_33 : decode cX6_odds 33 = .ok (.ldc 59, 2) := by decide +kernel
theorem dX6_odds_35 : decode cX6_odds 35 = .ok (.invokevirtual 60, 3) := by decide +kernel
theorem dX6_odds_38 : decode cX6_odds 38 = .ok (.i2l, 1) := by decide +kernel
theorem dX6_odds_39 : decode cX6_odds 39 = .ok (.lreturn, 1) := by decide +kernel
theorem dX6_odds_40 : decode cX6_odds 40 = .ok (.aload 4, 2) := by decide +kernel
theorem dX6_odds_42 : decode cX6_odds 42 = .ok (.getfield 215, 3) := by decide +kernel
theorem dX6_odds_45 : decode cX6_odds 45 = .ok (.invokestatic 218, 3) := by decide +kernel
theorem dX6_odds_48 : decode cX6_odds 48 = .ok (.istore 5, 2) := by decide +kernel
theorem dX6_odds_50 : decode cX6_odds 50 = .ok (.bipush 8, 2) := by decide +kernel
theorem dX6_odds_52 : decode cX6_odds 52 = .ok (.istore 6, 2) := by decide +kernel
theorem dX6_odds_54 : decode cX6_odds 54 = .ok (.iconst 0, 1) := by decide +kernel
theorem dX6_odds_55 : decode cX6_odds 55 = .ok (.istore 7, 2) := by decide +kernel
theorem dX6_odds_57 : decode cX6_odds 57 = .ok (.iload 7, 2) := by decide +kernel
theorem dX6_odds_59 : decode cX6_odds 59 = .ok (.bipush 8, 2) := by decide +kernel
theorem dX6_odds_61 : decode cX6_odds 61 = .ok (.if_icmp .ge 35, 3) := by decide +kernel
theorem dX6_odds_64 : decode cX6_odds 64 = .ok (.iload 5, 2) := by decide +kernel
theorem dX6_odds_66 : decode cX6_odds 66 = .ok (.iconst 2, 1) := by decide +kernel
theorem dX6_odds_67 : decode cX6_odds 67 = .ok (.irem, 1) := by decide +kernel
theorem dX6_odds_68 : decode cX6_odds 68 = .ok (.ifCond .ne 28, 3) := by decide +kernel
theorem dX6_odds_71 : decode cX6_odds 71 = .ok (.iload 6, 2) := by decide +kernel
theorem dX6_odds_73 : decode cX6_odds 73 = .ok (.iconst 2, 1) := by decide +kernel
theorem dX6_odds_74 : decode cX6_odds 74 = .ok (.irem, 1) := by decide +kernel
theorem dX6_odds_75 : decode cX6_odds 75 = .ok (.ifCond .ne 21, 3) := by decide +kernel
theorem dX6_odds_78 : decode cX6_odds 78 = .ok (.iload 5, 2) := by decide +kernel
theorem dX6_odds_80 : decode cX6_odds 80 = .ok (.iconst 2, 1) := by decide +kernel
theorem dX6_odds_81 : decode cX6_odds 81 = .ok (.idiv, 1) := by decide +kernel
theorem dX6_odds_82 : decode cX6_odds 82 = .ok (.istore 5, 2) := by decide +kernel
theorem dX6_odds_84 : decode cX6_odds 84 = .ok (.iload 6, 2) := by decide +kernel
theorem dX6_odds_86 : decode cX6_odds 86 = .ok (.iconst 2, 1) := by decide +kernel
theorem dX6_odds_87 : decode cX6_odds 87 = .ok (.idiv, 1) := by decide +kernel
theorem dX6_odds_88 : decode cX6_odds 88 = .ok (.istore 6, 2) := by decide +kernel
theorem dX6_odds_90 : decode cX6_odds 90 = .ok (.iinc 7 1, 3) := by decide +kernel
theorem dX6_odds_93 : decode cX6_odds 93 = .ok (.goto (-36), 3) := by decide +kernel
theorem dX6_odds_96 : decode cX6_odds 96 = .ok (.iload_n 3, 1) := by decide +kernel
theorem dX6_odds_97 : decode cX6_odds 97 = .ok (.ifCond .ne 8, 3) := by decide +kernel
theorem dX6_odds_100 : decode cX6_odds 100 = .ok (.iload 5, 2) := by decide +kernel
theorem dX6_odds_102 : decode cX6_odds 102 = .ok (.goto 5, 3) := by decide +kernel
theorem dX6_odds_105 : decode cX6_odds 105 = .ok (.iload 6, 2) := by decide +kernel
theorem dX6_odds_107 : decode cX6_odds 107 = .ok (.iload_n 2, 1) := by decide +kernel
theorem dX6_odds_108 : decode cX6_odds 108 = .ok (.invokestatic 222, 3) := by decide +kernel
theorem dX6_odds_111 : decode cX6_odds 111 = .ok (.lreturn, 1) := by decide +kernel
theorem dX6_seed_0 : decode cX6_seed 0 = .ok (.aload_n 0, 1) := by decide +kernel
theorem dX6_seed_1 : decode cX6_seed 1 = .ok (.getfield 12, 3) := by decide +kernel
theorem dX6_seed_4 : decode cX6_seed 4 = .ok (.getfield 226, 3) := by decide +kernel
theorem dX6_seed_7 : decode cX6_seed 7 = .ok (.istore_n 2, 1) := by decide +kernel
theorem dX6_seed_8 : decode cX6_seed 8 = .ok (.aload_n 0, 1) := by decide +kernel
theorem dX6_seed_9 : decode cX6_seed 9 = .ok (.getfield 12, 3) := by decide +kernel
theorem dX6_seed_12 : decode cX6_seed 12 = .ok (.iload_n 1, 1) := by decide +kernel
theorem dX6_seed_13 : decode cX6_seed 13 = .ok (.putfield 226, 3) := by decide +kernel
theorem dX6_seed_16 : decode cX6_seed 16 = .ok (.iload_n 2, 1) := by decide +kernel
theorem dX6_seed_17 : decode cX6_seed 17 = .ok (.ireturn, 1) := by decide +kernel
theorem dX6_feed_0 : decode cX6_feed 0 = .ok (.iload_n 2, 1) := by decide +kernel
theorem dX6_feed_1 : decode cX6_feed 1 = .ok (.iconst 1, 1) := by decide +kernel
theorem dX6_feed_2 : decode cX6_feed 2 = .ok (.if_icmp .lt 8, 3) := by decide +kernel
theorem dX6_feed_5 : decode cX6_feed 5 = .ok (.iload_n 2, 1) := by decide +kernel
theorem dX6_feed_6 : decode cX6_feed 6 = .ok (.iconst 4, 1) := by decide +kernel
theorem dX6_feed_7 : decode cX6_feed 7 = .ok (.if_icmp .le 10, 3) := by decide +kernel
theorem dX6_feed_10 : decode cX6_feed 10 = .ok (.aload_n 0, 1) := by decide +kernel
theorem dX6_feed_11 : decode cX6_feed 11 = .ok (.ldc 59, 2) := by decide +kernel
theorem dX6_feed_13 : decode cX6_feed 13 = .ok (.invokevirtual 60, 3) := by decide +kernel
theorem dX6_feed_16 : decode cX6_feed 16 = .ok (.ireturn, 1) := by decide +kernel
theorem dX6_feed_17 : decode cX6_feed 17 = .ok (.aload_n 0, 1) := by decide +kernel
theorem dX6_feed_18 : decode cX6_feed 18 = .ok (.getfield 33, 3) := by decide +kernel
theorem dX6_feed_21 : decode cX6_feed 21 = .ok (.getfield 229, 3) := by decide +kernel
theorem dX6_feed_24 : decode cX6_feed 24 = .ok (.iload_n 1, 1) := by decide +kernel
theorem dX6_feed_25 : decode cX6_feed 25 = .ok (.iload_n 2, 1) := by decide +kernel
theorem dX6_feed_26 : decode cX6_feed 26 = .ok (.invokevirtual 233, 3) := by decide +kernel
theorem dX6_feed_29 : decode cX6_feed 29 = .ok (.ifCond .eq 16, 3) := by decide +kernel
theorem dX6_feed_32 : decode cX6_feed 32 = .ok (.aload_n 0, 1) := by decide +kernel
theorem dX6_feed_33 : decode cX6_feed 33 = .ok (.getfield 33, 3) := by decide +kernel
theorem dX6_feed_36 : decode cX6_feed 36 = .ok (.getfield 229, 3) := by decide +kernel
theorem dX6_feed_39 : decode cX6_feed 39 = .ok (.getfield 238, 3) := by decide +kernel
theorem dX6_feed_42 : decode cX6_feed 42 = .ok (.goto 9, 3) := by decide +kernel
theorem dX6_feed_45 : decode cX6_feed 45 = .ok (.aload_n 0, 1) := by decide +kernel
theorem dX6_feed_46 : decode cX6_feed 46 = .ok (.ldc 80, 2) := by decide +kernel
theorem dX6_feed_48 : decode cX6_feed 48 = .ok (.invokevirtual 60, 3) := by decide +kernel
theorem dX6_feed_51 : decode cX6_feed 51 = .ok (.ireturn, 1) := by decide +kernel
theorem dX6_wipe_0 : decode cX6_wipe 0 = .ok (.aload_n 0, 1) := by decide +kernel
theorem dX6_wipe_1 : decode cX6_wipe 1 = .ok (.getfield 33, 3) := by decide +kernel
theorem dX6_wipe_4 : decode cX6_wipe 4 = .ok (.getfield 229, 3) := by decide +kernel
theorem dX6_wipe_7 : decode cX6_wipe 7 = .ok (.invokevirtual 241, 3) := by decide +kernel
theorem dX6_wipe_10 : decode cX6_wipe 10 = .ok (.ireturn, 1) := by decide +kernel
theorem dX6_text_0 : decode cX6_text 0 = .ok (.aload_n 0, 1) := by decide +kernel
theorem dX6_text_1 : decode cX6_text 1 = .ok (.getfield 33, 3) := by decide +kernel
theorem dX6_text_4 : decode cX6_text 4 = .ok (.aload_n 0, 1) := by decide +kernel
theorem dX6_text_5 : decode cX6_text 5 = .ok (.getfield 26, 3) := by decide +kernel
theorem dX6_text_8 : decode cX6_text 8 = .ok (.aload_n 0, 1) := by decide +kernel
theorem dX6_text_9 : decode cX6_text 9 = .ok (.getfield 12, 3) := by decide +kernel
theorem dX6_text_12 : decode cX6_text 12 = .ok (.invokevirtual 244, 3) := by decide +kernel
theorem dX6_text_15 : decode cX6_text 15 = .ok (.invokevirtual 248, 3) := by decide +kernel
theorem dX6_text_18 : decode cX6_text 18 = .ok (.istore_n 1, 1) := by decide +kernel
theorem dX6_text_19 : decode cX6_text 19 = .ok (.iload_n 1, 1) := by decide +kernel
theorem dX6_text_20 : decode cX6_text 20 = .ok (.ifCond .le 17, 3) := by decide +kernel
theorem dX6_text_23 : decode cX6_text 23 = .ok (.aload_n 0, 1) := by decide +kernel
theorem dX6_text_24 : decode cX6_text 24 = .ok (.getfield 12, 3) := by decide +kernel
theorem dX6_text_27 : decode cX6_text 27 = .ok (.aload_n 0, 1) := by decide +kernel
theorem dX6_text_28 : decode cX6_text 28 = .ok (.getfield 26, 3) := by decide +kernel
theorem dX6_text_31 : decode cX6_text 31 = .ok (.getfield 252, 3) := by decide +kernel
theorem dX6_text_34 : decode cX6_text 34 = .ok (.invokevirtual 255, 3) := by decide +kernel
theorem dX6_text_37 : decode cX6_text 37 = .ok (.aload_n 0, 1) := by decide +kernel
theorem dX6_text_38 : decode cX6_text 38 = .ok (.getfield 33, 3) := by decide +kernel
theorem dX6_text_41 : decode cX6_text 41 = .ok (.getfield 229, 3) := by decide +kernel
theorem dX6_text_44 : decode cX6_text 44 = .ok (.invokevirtual 241, 3) := by decide +kernel
theorem dX6_text_47 : decode cX6_text 47 = .ok (.pop, 1) := by decide +kernel
theorem dX6_text_48 : decode cX6_text 48 = .ok (.iload_n 1, 1) := by decide +kernel
theorem dX6_text_49 : decode cX6_text 49 = .ok (.ireturn, 1) := by decide +kernel
theorem dX6_hold_0 : decode cX6_hold 0 = .ok (.iload_n 1, 1) := by decide +kernel
theorem dX6_hold_1 : decode cX6_hold 1 = .ok (.bipush 9, 2) := by decide +kernel
theorem dX6_hold_3 : decode cX6_hold 3 = .ok (.invokestatic 48, 3) := by decide +kernel
theorem dX6_hold_6 : decode cX6_hold 6 = .ok (.ifCond .eq 19, 3) := by decide +kernel
theorem dX6_hold_9 : decode cX6_hold 9 = .ok (.iload_n 2, 1) := by decide +kernel
theorem dX6_hold_10 : decode cX6_hold 10 = .ok (.iconst (-1), 1) := by decide +kernel
theorem dX6_hold_11 : decode cX6_hold 11 = .ok (.if_icmp .lt 14, 3) := by decide +kernel
theorem dX6_hold_14 : decode cX6_hold 14 = .ok (.iload_n 2, 1) := by decide +kernel
theorem dX6_hold_15 : decode cX6_hold 15 = .ok (.aload_n 0, 1) := by decide +kernel
theorem dX6_hold_16 : decode cX6_hold 16 = .ok (.getfield 12, 3) := by decide +kernel
theorem dX6_hold_19 : decode cX6_hold 19 = .ok (.getfield 259, 3) := by decide +kernel
theorem dX6_hold_22 : decode cX6_hold 22 = .ok (.if_icmp .lt 10, 3) := by decide +kernel
theorem dX6_hold_25 : decode cX6_hold 25 = .ok (.aload_n 0, 1) := by decide +kernel
theorem dX6_hold_26 : decode cX6_hold 26 = .ok (.ldc 59, 2) := by decide +kernel
theorem dX6_hold_28 : decode cX6_hold 28 = .ok (.invokevirtual 60, 3) := by decide +kernel
theorem dX6_hold_31 : decode cX6_hold 31 = .ok (.ireturn, 1) := by decide +kernel
theorem dX6_hold_32 : decode cX6_hold 32 = .ok (.aload_n 0, 1) := by decide +kernel
theorem dX6_hold_33 : decode cX6_hold 33 = .ok (.getfield 12, 3) := by decide +kernel
theorem dX6_hold_36 : decode cX6_hold 36 = .ok (.getfield 262, 3) := by decide +kernel
theorem dX6_hold_39 : decode cX6_hold 39 = .ok (.iload_n 1, 1) := by decide +kernel
theorem dX6_hold_40 : decode cX6_hold 40 = .ok (.iload_n 2, 1) := by decide +kernel
theorem dX6_hold_41 : decode cX6_hold 41 = .ok (.iastore, 1) := by decide +kernel
theorem dX6_hold_42 : decode cX6_hold 42 = .ok (.iconst 1, 1) := by decide +kernel
theorem dX6_hold_43 : decode cX6_hold 43 = .ok (.ireturn, 1) := by decide +kernel
theorem dX6_as_0 : decode cX6_as 0 = .ok (.iload_n 1, 1) := by decide +kernel
theorem dX6_as_1 : decode cX6_as 1 = .ok (.bipush 9, 2) := by decide +kernel
theorem dX6_as_3 : decode cX6_as 3 = .ok (.invokestatic 48, 3) := by decide +kernel
theorem dX6_as_6 : decode cX6_as 6 = .ok (.ifCond .eq 10, 3) := by decide +kernel
theorem dX6_as_9 : decode cX6_as 9 = .ok (.iload_n 2, 1) := by decide +kernel
theorem dX6_as_10 : decode cX6_as 10 = .ok (.invokestatic 71, 3) := by decide +kernel
theorem dX6_as_13 : decode cX6_as 13 = .ok (.ifCond .ne 10, 3) := by decide +kernel
theorem dX6_as_16 : decode cX6_as 16 = .ok (.aload_n 0, 1) := by decide +kernel
theorem dX6_as_17 : decode cX6_as 17 = .ok (.ldc 59, 2) := by decide +kernel
theorem dX6_as_19 : decode cX6_as 19 = .ok (.invokevirtual 60, 3) := by decide +kernel
theorem dX6_as_22 : decode cX6_as 22 = .ok (.ireturn, 1) := by decide +kernel
theorem dX6_as_23 : decode cX6_as 23 = .ok (.aload_n 0, 1) := by decide +kernel
theorem dX6_as_24 : decode cX6_as 24 = .ok (.getfield 12, 3) := by decide +kernel
theorem dX6_as_27 : decode cX6_as 27 = .ok (.getfield 262, 3) := by decide +kernel
theorem dX6_as_30 : decode cX6_as 30 = .ok (.iload_n 1, 1) := by decide +kernel
theorem dX6_as_31 : decode cX6_as 31 = .ok (.iaload, 1) := by decide +kernel
theorem dX6_as_32 : decode cX6_as 32 = .ok (.istore_n 3, 1) := by decide +kernel
theorem dX6_as_33 : decode cX6_as 33 = .ok (.aload_n 0, 1) := by decide +kernel
theorem dX6_as_34 : decode cX6_as 34 = .ok (.getfield 12, 3) := by decide +kernel
theorem dX6_as_37 : decode cX6_as 37 = .ok (.iload_n 3, 1) := by decide +kernel
theorem dX6_as_38 : decode cX6_as 38 = .ok (.invokevirtual 81, 3) := by decide +kernel
theorem dX6_as_41 : decode cX6_as 41 = .ok (.astore 4, 2) := by decide +kernel
theorem dX6_as_43 : decode cX6_as 43 = .ok (.aload 4, 2) := by decide +kernel
theorem dX6_as_45 : decode cX6_as 45 = .ok (.ifnonnull 11, 3) := by decide +kernel
theorem dX6_as_48 : decode cX6_as 48 = .ok (.aload_n 0, 1) := by decide +kernel
theorem dX6_as_49 : decode cX6_as 49 = .ok (.ldc_w 265, 3) := by decide +kernel
theorem dX6_as_52 : decode cX6_as 52 = .ok (.invokevirtual 60, 3) := by decide +kernel
theorem dX6_as_55 : decode cX6_as 55 = .ok (.ireturn, 1) := by decide +kernel
theorem dX6_as_56 : decode cX6_as 56 = .ok (.aload 4, 2) := by decide +kernel
theorem dX6_as_58 : decode cX6_as 58 = .ok (.iload_n 2, 1) := by decide +kernel
theorem dX6_as_59 : decode cX6_as 59 = .ok (.invokevirtual 266, 3) := by decide +kernel
theorem dX6_as_62 : decode cX6_as 62 = .ok (.ifCond .eq 7, 3) := by decide +kernel
theorem dX6_as_65 : decode cX6_as 65 = .ok (.iload_n 3, 1) := by decide +kernel
theorem dX6_as_66 : decode cX6_as 66 = .ok (.goto 10, 3) := by decide +kernel
theorem dX6_as_69 : decode cX6_as 69 = .ok (.aload_n 0, 1) := by decide +kernel
theorem dX6_as_70 : decode cX6_as 70 = .ok (.ldc_w 269, 3) := by decide +kernel
theorem dX6_as_73 : decode cX6_as 73 = .ok (.invokevirtual 60, 3) := by decide +kernel
theorem dX6_as_76 : decode cX6_as 76 = .ok (.ireturn, 1) := by decide +kernel
theorem dX6_sheet_0 : decode cX6_sheet 0 = .ok (.aload_n 0, 1) := by decide +kernel
theorem dX6_sheet_1 : decode cX6_sheet 1 = .ok (.iload_n 1, 1) := by decide +kernel
theorem dX6_sheet_2 : decode cX6_sheet 2 = .ok (.invokevirtual 180, 3) := by decide +kernel
theorem dX6_sheet_5 : decode cX6_sheet 5 = .ok (.astore 4, 2) := by decide +kernel
theorem dX6_sheet_7 : decode cX6_sheet 7 = .ok (.aload 4, 2) := by decide +kernel
theorem dX6_sheet_9 : decode cX6_sheet 9 = .ok (.ifnull 10, 3) := by decide +kernel
theorem dX6_sheet_12 : decode cX6_sheet 12 = .ok (.iload_n 2, 1) := by decide +kernel
theorem dX6_sheet_13 : decode cX6_sheet 13 = .ok (.invokestatic 270, 3) := by decide +kernel
theorem dX6_sheet_16 : decode cX6_sheet 16 = .ok (.ifCond .ne 10, 3) := by decide +kernel
theorem dX6_sheet_19 : decode cX6_sheet 19 = .ok (.aload_n 0, 1) := by decide +kernel
theorem dX6_sheet_20 : decode cX6_sheet 20 = .ok (.ldc 59, 2) := by decide +kernel
theorem dX6_sheet_22 : decode cX6_sheet 22 = .ok (.invokevirtual 60, 3) := by decide +kernel
theorem dX6_sheet_25 : decode cX6_sheet 25 = .ok (.ireturn, 1) := by decide +kernel
theorem dX6_sheet_26 : decode cX6_sheet 26 = .ok (.iload_n 3, 1) := by decide +kernel
theorem dX6_sheet_27 : decode cX6_sheet 27 = .ok (.ifCond .ge 11, 3) := by decide +kernel
theorem dX6_sheet_30 : decode cX6_sheet 30 = .ok (.aload_n 0, 1) := by decide +kernel
theorem dX6_sheet_31 : decode cX6_sheet 31 = .ok (.ldc_w 273, 3) := by decide +kernel
theorem dX6_sheet_34 : decode cX6_sheet 34 = .ok (.invokevirtual 60, 3) := by decide +kernel
theorem dX6_sheet_37 : decode cX6_sheet 37 = .ok (.ireturn, 1) := by decide +kernel
theorem dX6_sheet_38 : decode cX6_sheet 38 = .ok (.iload_n 3, 1) := by decide +kernel
theorem dX6_sheet_39 : decode cX6_sheet 39 = .ok (.bipush 40, 2) := by decide +kernel
theorem dX6_sheet_41 : decode cX6_sheet 41 = .ok (.if_icmp .le 10, 3) := by decide +kernel
theorem dX6_sheet_44 : decode cX6_sheet 44 = .ok (.aload_n 0, 1) := by decide +kernel
theorem dX6_sheet_45 : decode cX6_sheet 45 = .ok (.ldc 59, 2) := by decide +kernel
theorem dX6_sheet_47 : decode cX6_sheet 47 = .ok (.invokevirtual 60, 3) := by decide +kernel
theorem dX6_sheet_50 : decode cX6_sheet 50 = .ok (.ireturn, 1) := by decide +kernel
theorem dX6_sheet_51 : decode cX6_sheet 51 = .ok (.aload 4, 2) := by decide +kernel
theorem dX6_sheet_53 : decode cX6_sheet 53 = .ok (.iload_n 2, 1) := by decide +kernel
theorem dX6_sheet_54 : decode cX6_sheet 54 = .ok (.iload_n 3, 1) := by decide +kernel
theorem dX6_sheet_55 : decode cX6_sheet 55 = .ok (.invokevirtual 274, 3) := by decide +kernel
theorem dX6_sheet_58 : decode cX6_sheet 58 = .ok (.aload 4, 2) := by decide +kernel
theorem dX6_sheet_60 : decode cX6_sheet 60 = .ok (.getfield 277, 3) := by decide +kernel
theorem dX6_sheet_63 : decode cX6_sheet 63 = .ok (.ireturn, 1) := by decide +kernel
theorem dX6_write_0 : decode cX6_write 0 = .ok (.aload_n 0, 1) := by decide +kernel
theorem dX6_write_1 : decode cX6_write 1 = .ok (.iload_n 1, 1) := by decide +kernel
theorem dX6_write_2 : decode cX6_write 2 = .ok (.invokevirtual 180, 3) := by decide +kernel
theorem dX6_write_5 : decode cX6_write 5 = .ok (.astore 4, 2) := by decide +kernel
theorem dX6_write_7 : decode cX6_write 7 = .ok (.aload 4, 2) := by decide +kernel
theorem dX6_write_9 : decode cX6_write 9 = .ok (.invokestatic 280, 3) := by decide +kernel
theorem dX6_write_12 : decode cX6_write 12 = .ok (.istore 5, 2) := by decide +kernel
theorem dX6_write_14 : decode cX6_write 14 = .ok (.aload 4, 2) := by decide +kernel
theorem dX6_write_16 : decode cX6_write 16 = .ok (.ifnull 8, 3) := by decide +kernel
theorem dX6_write_19 : decode cX6_write 19 = .ok (.iload 5, 2) := by decide +kernel
theorem dX6_write_21 : decode cX6_write 21 = .ok (.ifCond .eq 10, 3) := by decide +kernel
theorem dX6_write_24 : decode cX6_write 24 = .ok (.aload_n 0, 1) := by decide +kernel
theorem dX6_write_25 : decode cX6_write 25 = .ok (.iload 5, 2) := by decide +kernel
theorem dX6_write_27 : decode cX6_write 27 = .ok (.invokevirtual 60, 3) := by decide +kernel
theorem dX6_write_30 : decode cX6_write 30 = .ok (.ireturn, 1) := by decide +kernel
theorem dX6_write_31 : decode cX6_write 31 = .ok (.aload 4, 2) := by decide +kernel
theorem dX6_write_33 : decode cX6_write 33 = .ok (.iload_n 2, 1) := by decide +kernel
theorem dX6_write_34 : decode cX6_write 34 = .ok (.iload_n 3, 1) := by decide +kernel
theorem dX6_write_35 : decode cX6_write 35 = .ok (.invokevirtual 284, 3) := by decide +kernel
theorem dX6_write_38 : decode cX6_write 38 = .ok (.ifCond .eq 7, 3) := by decide +kernel
theorem dX6_write_41 : decode cX6_write 41 = .ok (.iconst 1, 1) := by decide +kernel
theorem dX6_write_42 : decode cX6_write 42 = .ok (.goto 9, 3) := by decide +kernel
theorem dX6_write_45 : decode cX6_write 45 = .ok (.aload_n 0, 1) := by decide +kernel
theorem dX6_write_46 : decode cX6_write 46 = .ok (.ldc 59, 2) := by decide +kernel
theorem dX6_write_48 : decode cX6_write 48 = .ok (.invokevirtual 60, 3) := by decide +kernel
theorem dX6_write_51 : decode cX6_write 51 = .ok (.ireturn, 1) := by decide +kernel
theorem dX6_copy_0 : decode cX6_copy 0 = .ok (.aload_n 0, 1) := by decide +kernel
theorem dX6_copy_1 : decode cX6_copy 1 = .ok (.iload_n 1, 1) := by decide +kernel
theorem dX6_copy_2 : decode cX6_copy 2 = .ok (.invokevirtual 180, 3) := by decide +kernel
theorem dX6_copy_5 : decode cX6_copy 5 = .ok (.astore 6, 2) := by decide +kernel
theorem dX6_copy_7 : decode cX6_copy 7 = .ok (.aload_n 0, 1) := by decide +kernel
theorem dX6_copy_8 : decode cX6_copy 8 = .ok (.iload_n 3, 1) := by decide +kernel
theorem dX6_copy_9 : decode cX6_copy 9 = .ok (.invokevirtual 180, 3) := by decide +kernel
theorem dX6_copy_12 : decode cX6_copy 12 = .ok (.astore 7, 2) := by decide +kernel
theorem dX6_copy_14 : decode cX6_copy 14 = .ok (.aload 6, 2) := by decide +kernel
theorem dX6_copy_16 : decode cX6_copy 16 = .ok (.ifnull 8, 3) := by decide +kernel
theorem dX6_copy_19 : decode cX6_copy 19 = .ok (.aload 7, 2) := by decide +kernel
theorem dX6_copy_21 : decode cX6_copy 21 = .ok (.ifnonnull 10, 3) := by decide +kernel
theorem dX6_copy_24 : decode cX6_copy 24 = .ok (.aload_n 0, 1) := by decide +kernel
theorem dX6_copy_25 : decode cX6_copy 25 = .ok (.ldc 59, 2) := by decide +kernel
theorem dX6_copy_27 : decode cX6_copy 27 = .ok (.invokevirtual 60, 3) := by decide +kernel
theorem dX6_copy_30 : decode cX6_copy 30 = .ok (.ireturn, 1) := by decide +kernel
theorem dX6_copy_31 : decode cX6_copy 31 = .ok (.aload 6, 2) := by decide +kernel
theorem dX6_copy_33 : decode cX6_copy 33 = .ok (.invokevirtual 286, 3) := by decide +kernel
theorem dX6_copy_36 : decode cX6_copy 36 = .ok (.ifCond .ne 11, 3) := by decide +kernel
theorem dX6_copy_39 : decode cX6_copy 39 = .ok (.aload 7, 2) := by decide +kernel
theorem dX6_copy_41 : decode cX6_copy 41 = .ok (.invokevirtual 286, 3) := by decide +kernel
theorem dX6_copy_44 : decode cX6_copy 44 = .ok (.ifCond .eq 11, 3) := by decide +kernel
theorem dX6_copy_47 : decode cX6_copy 47 = .ok (.aload_n 0, 1) := by decide +kernel
theorem dX6_copy_48 : decode cX6_copy 48 = .ok (.ldc_w 265, 3) := by decide +kernel
theorem dX6_copy_51 : decode cX6_copy 51 = .ok (.invokevirtual 60, 3) := by decide +kernel
theorem dX6_copy_54 : decode cX6_copy 54 = .ok (.ireturn, 1) := by decide +kernel
theorem dX6_copy_55 : decode cX6_copy 55 = .ok (.aload 6, 2) := by decide +kernel
theorem dX6_copy_57 : decode cX6_copy 57 = .ok (.getfield 290, 3) := by decide +kernel
theorem dX6_copy_60 : decode cX6_copy 60 = .ok (.aload 7, 2) := by decide +kernel
theorem dX6_copy_62 : decode cX6_copy 62 = .ok (.getfield 290, 3) := by decide +kernel
theorem dX6_copy_65 : decode cX6_copy 65 = .ok (.if_icmp .eq 11, 3) := by decide +kernel
theorem dX6_copy_68 : decode cX6_copy 68 = .ok (.aload_n 0, 1) := by decide +kernel
theorem dX6_copy_69 : decode cX6_copy 69 = .ok (.ldc_w 269, 3) := by decide +kernel
theorem dX6_copy_72 : decode cX6_copy 72 = .ok (.invokevirtual 60, 3) := by decide +kernel
theorem dX6_copy_75 : decode cX6_copy 75 = .ok (.ireturn, 1) := by decide +kernel
theorem dX6_copy_76 : decode cX6_copy 76 = .ok (.aload 6, 2) := by decide +kernel
theorem dX6_copy_78 : decode cX6_copy 78 = .ok (.iload_n 2, 1) := by decide +kernel
theorem dX6_copy_79 : decode cX6_copy 79 = .ok (.iload 5, 2) := by decide +kernel
theorem dX6_copy_81 : decode cX6_copy 81 = .ok (.invokevirtual 293, 3) := by decide +kernel
theorem dX6_copy_84 : decode cX6_copy 84 = .ok (.ifCond .eq 15, 3) := by decide +kernel
theorem dX6_copy_87 : decode cX6_copy 87 = .ok (.aload 7, 2) := by decide +kernel
theorem dX6_copy_89 : decode cX6_copy 89 = .ok (.iload 4, 2) := by decide +kernel
theorem dX6_copy_91 : decode cX6_copy 91 = .ok (.iload 5, 2) := by decide +kernel
theorem dX6_copy_93 : decode cX6_copy 93 = .ok (.invokevirtual 293, 3) := by decide +kernel
theorem dX6_copy_96 : decode cX6_copy 96 = .ok (.ifCond .ne 10, 3) := by decide +kernel
theorem dX6_copy_99 : decode cX6_copy 99 = .ok (.aload_n 0, 1) := by decide +kernel
theorem dX6_copy_100 : decode cX6_copy 100 = .ok (.ldc 59, 2) := by decide +kernel
theorem dX6_copy_102 : decode cX6_copy 102 = .ok (.invokevirtual 60, 3) := by decide +kernel
theorem dX6_copy_105 : decode cX6_copy 105 = .ok (.ireturn, 1) := by decide +kernel
theorem dX6_copy_106 : decode cX6_copy 106 = .ok (.aload 6, 2) := by decide +kernel
theorem dX6_copy_108 : decode cX6_copy 108 = .ok (.getfield 296, 3) := by decide +kernel
theorem dX6_copy_111 : decode cX6_copy 111 = .ok (.iload_n 2, 1) := by decide +kernel
theorem dX6_copy_112 : decode cX6_copy 112 = .ok (.aload 7, 2) := by decide +kernel
theorem dX6_copy_114 : decode cX6_copy 114 = .ok (.getfield 296, 3) := by decide +kernel
theorem dX6_copy_117 : decode cX6_copy 117 = .ok (.iload 4, 2) := by decide +kernel
theorem dX6_copy_119 : decode cX6_copy 119 = .ok (.iload 5, 2) := by decide +kernel
theorem dX6_copy_121 : decode cX6_copy 121 = .ok (.invokestatic 299, 3) := by decide +kernel
theorem dX6_copy_124 : decode cX6_copy 124 = .ok (.iload 5, 2) := by decide +kernel
theorem dX6_copy_126 : decode cX6_copy 126 = .ok (.ireturn, 1) := by decide +kernel
theorem dX6_load_0 : decode cX6_load 0 = .ok (.aload_n 0, 1) := by decide +kernel
theorem dX6_load_1 : decode cX6_load 1 = .ok (.iload_n 1, 1) := by decide +kernel
theorem dX6_load_2 : decode cX6_load 2 = .ok (.invokevirtual 180, 3) := by decide +kernel
theorem dX6_load_5 : decode cX6_load 5 = .ok (.astore_n 2, 1) := by decide +kernel
theorem dX6_load_6 : decode cX6_load 6 = .ok (.aload_n 2, 1) := by decide +kernel
theorem dX6_load_7 : decode cX6_load 7 = .ok (.invokestatic 280, 3) := by decide +kernel
theorem dX6_load_10 : decode cX6_load 10 = .ok (.istore_n 3, 1) := by decide +kernel
theorem dX6_load_11 : decode cX6_load 11 = .ok (.aload_n 2, 1) := by decide +kernel
theorem dX6_load_12 : decode cX6_load 12 = .ok (.ifnull 7, 3) := by decide +kernel
theorem dX6_load_15 : decode cX6_load 15 = .ok (.iload_n 3, 1) := by decide +kernel
theorem dX6_load_16 : decode cX6_load 16 = .ok (.ifCond .eq 9, 3) := by decide +kernel
theorem dX6_load_19 : decode cX6_load 19 = .ok (.aload_n 0, 1) := by decide +kernel
theorem dX6_load_20 : decode cX6_load 20 = .ok (.iload_n 3, 1) := by decide +kernel
theorem dX6_load_21 : decode cX6_load 21 = .ok (.invokevirtual 60, 3) := by decide +kernel
theorem dX6_load_24 : decode cX6_load 24 = .ok (.ireturn, 1) := by decide +kernel
theorem dX6_load_25 : decode cX6_load 25 = .ok (.iconst 0, 1) := by decide +kernel
theorem dX6_load_26 : decode cX6_load 26 = .ok (.istore 4, 2) := by decide +kernel
theorem dX6_load_28 : decode cX6_load 28 = .ok (.iload 4, 2) := by decide +kernel
theorem dX6_load_30 : decode cX6_load 30 = .ok (.bipush 6, 2) := by decide +kernel
theorem dX6_load_32 : decode cX6_load 32 = .ok (.if_icmp .ge 48, 3) := by decide +kernel
theorem dX6_load_35 : decode cX6_load 35 = .ok (.iload 4, 2) := by decide +kernel
theorem dX6_load_37 : decode cX6_load 37 = .ok (.aload_n 2, 1) := by decide +kernel
theorem dX6_load_38 : decode cX6_load 38 = .ok (.getfield 277, 3) := by decide +kernel
theorem dX6_load_41 : decode cX6_load 41 = .ok (.if_icmp .ge 39, 3) := by decide +kernel
theorem dX6_load_44 : decode cX6_load 44 = .ok (.aload_n 2, 1) := by decide +kernel
theorem dX6_load_45 : decode cX6_load 45 = .ok (.getfield 296, 3) := by decide +kernel
theorem dX6_load_48 : decode cX6_load 48 = .ok (.iload 4, 2) := by decide +kernel
theorem dX6_load_50 : decode cX6_load 50 = .ok (.iaload, 1) := by decide +kernel
theorem dX6_load_51 : decode cX6_load 51 = .ok (.invokestatic 64, 3) := by decide +kernel
theorem dX6_load_54 : decode cX6_load 54 = .ok (.ifCond .eq 26, 3) := by decide +kernel
theorem dX6_load_57 : decode cX6_load 57 = .ok (.aload_n 0, 1) := by decide +kernel
theorem dX6_load_58 : decode cX6_load 58 = .ok (.getfield 12, 3) := by decide +kernel
theorem dX6_load_61 : decode cX6_load 61 = .ok (.getfield 68, 3) := by decide +kernel
theorem dX6_load_64 : decode cX6_load 64 = .ok (.iload 4, 2) := by decide +kernel
theorem dX6_load_66 : decode cX6_load 66 = .ok (.aload_n 2, 1) := by decide +kernel
theorem dX6_load_67 : decode cX6_load 67 = .ok (.getfield 296, 3) := by decide +kernel
theorem dX6_load_70 : decode cX6_load 70 = .ok (.iload 4, 2) := by decide +kernel
theorem dX6_load_72 : decode cX6_load 72 = .ok (.iaload, 1) := by decide +kernel
theorem dX6_load_73 : decode cX6_load 73 = .ok (.iastore, 1) := by decide +kernel
theorem dX6_load_74 : decode cX6_load 74 = .ok (.iinc 4 1, 3) := by decide +kernel
theorem dX6_load_77 : decode cX6_load 77 = .ok (.goto (-49), 3) := by decide +kernel
theorem dX6_load_80 : decode cX6_load 80 = .ok (.iload 4, 2) := by decide +kernel
theorem dX6_load_82 : decode cX6_load 82 = .ok (.ireturn, 1) := by decide +kernel
theorem dX6_judge_0 : decode cX6_judge 0 = .ok (.aload_n 0, 1) := by decide +kernel
theorem dX6_judge_1 : decode cX6_judge 1 = .ok (.iload_n 1, 1) := by decide +kernel
theorem dX6_judge_2 : decode cX6_judge 2 = .ok (.invokevirtual 180, 3) := by decide +kernel
theorem dX6_judge_5 : decode cX6_judge 5 = .ok (.astore_n 2, 1) := by decide +kernel
theorem dX6_judge_6 : decode cX6_judge 6 = .ok (.aload_n 2, 1) := by decide +kernel
theorem dX6_judge_7 : decode cX6_judge 7 = .ok (.invokestatic 280, 3) := by decide +kernel
theorem dX6_judge_10 : decode cX6_judge 10 = .ok (.istore_n 3, 1) := by decide +kernel
theorem dX6_judge_11 : decode cX6_judge 11 = .ok (.aload_n 2, 1) := by decide +kernel
theorem dX6_judge_12 : decode cX6_judge 12 = .ok (.ifnull 7, 3) := by decide +kernel
theorem dX6_judge_15 : decode cX6_judge 15 = .ok (.iload_n 3, 1) := by decide +kernel
theorem dX6_judge_16 : decode cX6_judge 16 = .ok (.ifCond .eq 9, 3) := by decide +kernel
theorem dX6_judge_19 : decode cX6_judge 19 = .ok (.aload_n 0, 1) := by decide +kernel
theorem dX6_judge_20 : decode cX6_judge 20 = .ok (.iload_n 3, 1) := by decide +kernel
theorem dX6_judge_21 : decode cX6_judge 21 = .ok (.invokevirtual 60, 3) := by decide +kernel
theorem dX6_judge_24 : decode cX6_judge 24 = .ok (.ireturn, 1) := by decide +kernel
theorem dX6_judge_25 : decode cX6_judge 25 = .ok (.iconst 0, 1) := by decide +kernel
theorem dX6_judge_26 : decode cX6_judge 26 = .ok (.istore 4, 2) := by decide +kernel
theorem dX6_judge_28 : decode cX6_judge 28 = .ok (.iload 4, 2) := by decide +kernel
theorem dX6_judge_30 : decode cX6_judge 30 = .ok (.aload_n 2, 1) := by decide +kernel
theorem dX6_judge_31 : decode cX6_judge 31 = .ok (.getfield 277, 3) := by decide +kernel
theorem dX6_judge_34 : decode cX6_judge 34 = .ok (.if_icmp .ge 45, 3) := by decide +kernel
theorem dX6_judge_37 : decode cX6_judge 37 = .ok (.aload_n 0, 1) := by decide +kernel
theorem dX6_judge_38 : decode cX6_judge 38 = .ok (.getfield 12, 3) := by decide +kernel
theorem dX6_judge_41 : decode cX6_judge 41 = .ok (.iload 4, 2) := by decide +kernel
theorem dX6_judge_43 : decode cX6_judge 43 = .ok (.invokevirtual 81, 3) := by decide +kernel
theorem dX6_judge_46 : decode cX6_judge 46 = .ok (.astore 5, 2) := by decide +kernel
theorem dX6_judge_48 : decode cX6_judge 48 = .ok (.aload 5, 2) := by decide +kernel
theorem dX6_judge_50 : decode cX6_judge 50 = .ok (.ifnull 18, 3) := by decide +kernel
theorem dX6_judge_53 : decode cX6_judge 53 = .ok (.aload_n 2, 1) := by decide +kernel
theorem dX6_judge_54 : decode cX6_judge 54 = .ok (.getfield 296, 3) := by decide +kernel
theorem dX6_judge_57 : decode cX6_judge 57 = .ok (.iload 4, 2) := by decide +kernel
theorem dX6_judge_59 : decode cX6_judge 59 = .ok (.iaload, 1) := by decide +kernel
theorem dX6_judge_60 : decode cX6_judge 60 = .ok (.aload 5, 2) := by decide +kernel
theorem dX6_judge_62 : decode cX6_judge 62 = .ok (.getfield 305, 3) := by decide +kernel
theorem dX6_judge_65 : decode cX6_judge 65 = .ok (.if_icmp .eq 8, 3) := by decide +kernel
theorem dX6_judge_68 : decode cX6_judge 68 = .ok (.iconst 1, 1) := by decide +kernel
theorem dX6_judge_69 : decode cX6_judge 69 = .ok (.iload 4, 2) := by decide +kernel
theorem dX6_judge_71 : decode cX6_judge 71 = .ok (.iadd, 1) := by decide +kernel
theorem dX6_judge_72 : decode cX6_judge 72 = .ok (.ireturn, 1) := by decide +kernel
theorem dX6_judge_73 : decode cX6_judge 73 = .ok (.iinc 4 1, 3) := by decide +kernel
theorem dX6_judge_76 : decode cX6_judge 76 = .ok (.goto (-48), 3) := by decide +kernel
theorem dX6_judge_79 : decode cX6_judge 79 = .ok (.iconst 0, 1) := by decide +kernel
theorem dX6_judge_80 : decode cX6_judge 80 = .ok (.ireturn, 1) := by decide +kernel
theorem dX6_image_0 : decode cX6_image 0 = .ok (.aload_n 0, 1) := by decide +kernel
theorem dX6_image_1 : decode cX6_image 1 = .ok (.getfield 16, 3) := by decide +kernel
theorem dX6_image_4 : decode cX6_image 4 = .ok (.aload_n 0, 1) := by decide +kernel
theorem dX6_image_5 : decode cX6_image 5 = .ok (.getfield 12, 3) := by decide +kernel
theorem dX6_image_8 : decode cX6_image 8 = .ok (.invokevirtual 255, 3) := by decide +kernel
theorem dX6_image_11 : decode cX6_image 11 = .ok (.aload_n 0, 1) := by decide +kernel
theorem dX6_image_12 : decode cX6_image 12 = .ok (.iconst 1, 1) := by decide +kernel
theorem dX6_image_13 : decode cX6_image 13 = .ok (.putfield 19, 3) := by decide +kernel
theorem dX6_image_16 : decode cX6_image 16 = .ok (.iconst 1, 1) := by decide +kernel
theorem dX6_image_17 : decode cX6_image 17 = .ok (.ireturn, 1) := by decide +kernel
theorem dX6_undo_0 : decode cX6_undo 0 = .ok (.aload_n 0, 1) := by decide +kernel
theorem dX6_undo_1 : decode cX6_undo 1 = .ok (.getfield 19, 3) := by decide +kernel
theorem dX6_undo_4 : decode cX6_undo 4 = .ok (.ifCond .ne 10, 3) := by decide +kernel
theorem dX6_undo_7 : decode cX6_undo 7 = .ok (.aload_n 0, 1) := by decide +kernel
theorem dX6_undo_8 : decode cX6_undo 8 = .ok (.ldc 198, 2) := by decide +kernel
theorem dX6_undo_10 : decode cX6_undo 10 = .ok (.invokevirtual 60, 3) := by decide +kernel
theorem dX6_undo_13 : decode cX6_undo 13 = .ok (.ireturn, 1) := by decide +kernel
theorem dX6_undo_14 : decode cX6_undo 14 = .ok (.aload_n 0, 1) := by decide +kernel
theorem dX6_undo_15 : decode cX6_undo 15 = .ok (.getfield 12, 3) := by decide +kernel
theorem dX6_undo_18 : decode cX6_undo 18 = .ok (.aload_n 0, 1) := by decide +kernel
theorem dX6_undo_19 : decode cX6_undo 19 = .ok (.getfield 16, 3) := by decide +kernel
theorem dX6_undo_22 : decode cX6_undo 22 = .ok (.invokevirtual 255, 3) := by decide +kernel
theorem dX6_undo_25 : decode cX6_undo 25 = .ok (.aload_n 0, 1) := by decide +kernel
theorem dX6_undo_26 : decode cX6_undo 26 = .ok (.getfield 12, 3) := by decide +kernel
theorem dX6_undo_29 : decode cX6_undo 29 = .ok (.getfield 119, 3) := by decide +kernel
theorem dX6_undo_32 : decode cX6_undo 32 = .ok (.ireturn, 1) := by decide +kernel
theorem dX6_tear_0 : decode cX6_tear 0 = .ok (.aload_n 0, 1) := by decide +kernel
theorem dX6_tear_1 : decode cX6_tear 1 = .ok (.getfield 19, 3) := by decide +kernel
theorem dX6_tear_4 : decode cX6_tear 4 = .ok (.ifCond .eq 7, 3) := by decide +kernel
theorem dX6_tear_7 : decode cX6_tear 7 = .ok (.iconst 1, 1) := by decide +kernel
theorem dX6_tear_8 : decode cX6_tear 8 = .ok (.goto 4, 3) := by decide +kernel
theorem dX6_tear_11 : decode cX6_tear 11 = .ok (.iconst 0, 1) := by decide +kernel
theorem dX6_tear_12 : decode cX6_tear 12 = .ok (.istore_n 1, 1) := by decide +kernel
theorem dX6_tear_13 : decode cX6_tear 13 = .ok (.aload_n 0, 1) := by decide +kernel
theorem dX6_tear_14 : decode cX6_tear 14 = .ok (.iconst 0, 1) := by decide +kernel
theorem dX6_tear_15 : decode cX6_tear 15 = .ok (.putfield 19, 3) := by decide +kernel
theorem dX6_tear_18 : decode cX6_tear 18 = .ok (.iload_n 1, 1) := by decide +kernel
theorem dX6_tear_19 : decode cX6_tear 19 = .ok (.ireturn, 1) := by decide +kernel
theorem dX6_count_0 : decode cX6_count 0 = .ok (.iload_n 1, 1) := by decide +kernel
theorem dX6_count_1 : decode cX6_count 1 = .ok (.tableswitch 118 0 7 #[47, 55, 63, 74, 82, 91, 102, 110], 47) := by decide +kernel
theorem dX6_count_48 : decode cX6_count 48 = .ok (.aload_n 0, 1) := by decide +kernel
theorem dX6_count_49 : decode cX6_count 49 = .ok (.getfield 12, 3) := by decide +kernel
theorem dX6_count_52 : decode cX6_count 52 = .ok (.getfield 119, 3) := by decide +kernel
theorem dX6_count_55 : decode cX6_count 55 = .ok (.ireturn, 1) := by decide +kernel
theorem dX6_count_56 : decode cX6_count 56 = .ok (.aload_n 0, 1) := by decide +kernel
theorem dX6_count_57 : decode cX6_count 57 = .ok (.getfield 12, 3) := by decide +kernel
theorem dX6_count_60 : decode cX6_count 60 = .ok (.getfield 259, 3) := by decide +kernel
theorem dX6_count_63 : decode cX6_count 63 = .ok (.ireturn, 1) := by decide +kernel
theorem dX6_count_64 : decode cX6_count 64 = .ok (.aload_n 0, 1) := by decide +kernel
theorem dX6_count_65 : decode cX6_count 65 = .ok (.getfield 12, 3) := by decide +kernel
theorem dX6_count_68 : decode cX6_count 68 = .ok (.getfield 56, 3) := by decide +kernel
theorem dX6_count_71 : decode cX6_count 71 = .ok (.invokestatic 218, 3) := by decide +kernel
theorem dX6_count_74 : decode cX6_count 74 = .ok (.ireturn, 1) := by decide +kernel
theorem dX6_count_75 : decode cX6_count 75 = .ok (.aload_n 0, 1) := by decide +kernel
theorem dX6_count_76 : decode cX6_count 76 = .ok (.getfield 12, 3) := by decide +kernel
theorem dX6_count_79 : decode cX6_count 79 = .ok (.getfield 128, 3) := by decide +kernel
theorem dX6_count_82 : decode cX6_count 82 = .ok (.ireturn, 1) := by decide +kernel
theorem dX6_count_83 : decode cX6_count 83 = .ok (.aload_n 0, 1) := by decide +kernel
theorem dX6_count_84 : decode cX6_count 84 = .ok (.getfield 12, 3) := by decide +kernel
theorem dX6_count_87 : decode cX6_count 87 = .ok (.iconst 5, 1) := by decide +kernel
theorem dX6_count_88 : decode cX6_count 88 = .ok (.invokevirtual 134, 3) := by decide +kernel
theorem dX6_count_91 : decode cX6_count 91 = .ok (.ireturn, 1) := by decide +kernel
theorem dX6_count_92 : decode cX6_count 92 = .ok (.aload_n 0, 1) := by decide +kernel
theorem dX6_count_93 : decode cX6_count 93 = .ok (.getfield 33, 3) := by decide +kernel
theorem dX6_count_96 : decode cX6_count 96 = .ok (.getfield 229, 3) := by decide +kernel
theorem dX6_count_99 : decode cX6_count 99 = .ok (.getfield 238, 3) := by decide +kernel
theorem dX6_count_102 : decode cX6_count 102 = .ok (.ireturn, 1) := by decide +kernel
theorem dX6_count_103 : decode cX6_count 103 = .ok (.aload_n 0, 1) := by decide +kernel
theorem dX6_count_104 : decode cX6_count 104 = .ok (.getfield 12, 3) := by decide +kernel
theorem dX6_count_107 : decode cX6_count 107 = .ok (.getfield 226, 3) := by decide +kernel
theorem dX6_count_110 : decode cX6_count 110 = .ok (.ireturn, 1) := by decide +kernel
theorem dX6_count_111 : decode cX6_count 111 = .ok (.aload_n 0, 1) := by decide +kernel
theorem dX6_count_112 : decode cX6_count 112 = .ok (.getfield 12, 3) := by decide +kernel
theorem dX6_count_115 : decode cX6_count 115 = .ok (.invokevirtual 308, 3) := by decide +kernel
theorem dX6_count_118 : decode cX6_count 118 = .ok (.ireturn, 1) := by decide +kernel
theorem dX6_count_119 : decode cX6_count 119 = .ok (.aload_n 0, 1) := by decide +kernel
theorem dX6_count_120 : decode cX6_count 120 = .ok (.ldc 59, 2) := by decide +kernel
theorem dX6_count_122 : decode cX6_count 122 = .ok (.invokevirtual 60, 3) := by decide +kernel
theorem dX6_count_125 : decode cX6_count 125 = .ok (.ireturn, 1) := by decide +kernel
theorem dX6_status_0 : decode cX6_status 0 = .ok (.iload_n 1, 1) := by decide +kernel
theorem dX6_status_1 : decode cX6_status 1 = .ok (.iconst (-1), 1) := by decide +kernel
theorem dX6_status_2 : decode cX6_status 2 = .ok (.if_icmp .ne 30, 3) := by decide +kernel
theorem dX6_status_5 : decode cX6_status 5 = .ok (.iconst 0, 1) := by decide +kernel
theorem dX6_status_6 : decode cX6_status 6 = .ok (.istore_n 2, 1) := by decide +kernel
theorem dX6_status_7 : decode cX6_status 7 = .ok (.iconst 0, 1) := by decide +kernel
theorem dX6_status_8 : decode cX6_status 8 = .ok (.istore_n 3, 1) := by decide +kernel
theorem dX6_status_9 : decode cX6_status 9 = .ok (.iload_n 3, 1) := by decide +kernel
theorem dX6_status_10 : decode cX6_status 10 = .ok (.bipush 7, 2) := by decide +kernel
theorem dX6_status_12 : decode cX6_status 12 = .ok (.if_icmp .ge 18, 3) := by decide +kernel
theorem dX6_status_15 : decode cX6_status 15 = .ok (.iload_n 2, 1) := by decide +kernel
theorem dX6_status_16 : decode cX6_status 16 = .ok (.aload_n 0, 1) := by decide +kernel
theorem dX6_status_17 : decode cX6_status 17 = .ok (.getfield 43, 3) := by decide +kernel
theorem dX6_status_20 : decode cX6_status 20 = .ok (.iload_n 3, 1) := by decide +kernel
theorem dX6_status_21 : decode cX6_status 21 = .ok (.iaload, 1) := by decide +kernel
theorem dX6_status_22 : decode cX6_status 22 = .ok (.iadd, 1) := by decide +kernel
theorem dX6_status_23 : decode cX6_status 23 = .ok (.istore_n 2, 1) := by decide +kernel
theorem dX6_status_24 : decode cX6_status 24 = .ok (.iinc 3 1, 3) := by decide +kernel
theorem dX6_status_27 : decode cX6_status 27 = .ok (.goto (-18), 3) := by decide +kernel
theorem dX6_status_30 : decode cX6_status 30 = .ok (.iload_n 2, 1) := by decide +kernel
theorem dX6_status_31 : decode cX6_status 31 = .ok (.ireturn, 1) := by decide +kernel
theorem dX6_status_32 : decode cX6_status 32 = .ok (.iload_n 1, 1) := by decide +kernel
theorem dX6_status_33 : decode cX6_status 33 = .ok (.bipush 6, 2) := by decide +kernel
theorem dX6_status_35 : decode cX6_status 35 = .ok (.invokestatic 48, 3) := by decide +kernel
theorem dX6_status_38 : decode cX6_status 38 = .ok (.ifCond .eq 12, 3) := by decide +kernel
theorem dX6_status_41 : decode cX6_status 41 = .ok (.aload_n 0, 1) := by decide +kernel
theorem dX6_status_42 : decode cX6_status 42 = .ok (.getfield 43, 3) := by decide +kernel
theorem dX6_status_45 : decode cX6_status 45 = .ok (.iload_n 1, 1) := by decide +kernel
theorem dX6_status_46 : decode cX6_status 46 = .ok (.iaload, 1) := by decide +kernel
theorem dX6_status_47 : decode cX6_status 47 = .ok (.goto 9, 3) := by decide +kernel
theorem dX6_status_50 : decode cX6_status 50 = .ok (.aload_n 0, 1) := by decide +kernel
theorem dX6_status_51 : decode cX6_status 51 = .ok (.ldc 59, 2) := by decide +kernel
theorem dX6_status_53 : decode cX6_status 53 = .ok (.invokevirtual 60, 3) := by decide +kernel
theorem dX6_status_56 : decode cX6_status 56 = .ok (.ireturn, 1) := by decide +kernel
theorem dX6_tell_0 : decode cX6_tell 0 = .ok (.ldc 59, 2) := by decide +kernel
theorem dX6_tell_2 : decode cX6_tell 2 = .ok (.iload_n 1, 1) := by decide +kernel
theorem dX6_tell_3 : decode cX6_tell 3 = .ok (.isub, 1) := by decide +kernel
theorem dX6_tell_4 : decode cX6_tell 4 = .ok (.istore_n 2, 1) := by decide +kernel
theorem dX6_tell_5 : decode cX6_tell 5 = .ok (.iload_n 2, 1) := by decide +kernel
theorem dX6_tell_6 : decode cX6_tell 6 = .ok (.bipush 6, 2) := by decide +kernel
theorem dX6_tell_8 : decode cX6_tell 8 = .ok (.invokestatic 48, 3) := by decide +kernel
theorem dX6_tell_11 : decode cX6_tell 11 = .ok (.ifCond .eq 13, 3) := by decide +kernel
theorem dX6_tell_14 : decode cX6_tell 14 = .ok (.aload_n 0, 1) := by decide +kernel
theorem dX6_tell_15 : decode cX6_tell 15 = .ok (.getfield 43, 3) := by decide +kernel
theorem dX6_tell_18 : decode cX6_tell 18 = .ok (.iload_n 2, 1) := by decide +kernel
theorem dX6_tell_19 : decode cX6_tell 19 = .ok (.dup2, 1) := by decide +kernel
theorem dX6_tell_20 : decode cX6_tell 20 = .ok (.iaload, 1) := by decide +kernel
theorem dX6_tell_21 : decode cX6_tell 21 = .ok (.iconst 1, 1) := by decide +kernel
theorem dX6_tell_22 : decode cX6_tell 22 = .ok (.iadd, 1) := by decide +kernel
theorem dX6_tell_23 : decode cX6_tell 23 = .ok (.iastore, 1) := by decide +kernel
theorem dX6_tell_24 : decode cX6_tell 24 = .ok (.iload_n 1, 1) := by decide +kernel
theorem dX6_tell_25 : decode cX6_tell 25 = .ok (.ireturn, 1) := by decide +kernel
theorem dX6_orNone_0 : decode cX6_orNone 0 = .ok (.iload_n 1, 1) := by decide +kernel
theorem dX6_orNone_1 : decode cX6_orNone 1 = .ok (.ifCond .ge 12, 3) := by decide +kernel
theorem dX6_orNone_4 : decode cX6_orNone 4 = .ok (.aload_n 0, 1) := by decide +kernel
theorem dX6_orNone_5 : decode cX6_orNone 5 = .ok (.ldc 198, 2) := by decide +kernel
theorem dX6_orNone_7 : decode cX6_orNone 7 = .ok (.invokevirtual 60, 3) := by decide +kernel
theorem dX6_orNone_10 : decode cX6_orNone 10 = .ok (.goto 4, 3) := by decide +kernel
theorem dX6_orNone_13 : decode cX6_orNone 13 = .ok (.iload_n 1, 1) := by decide +kernel
theorem dX6_orNone_14 : decode cX6_orNone 14 = .ok (.ireturn, 1) := by decide +kernel
theorem dX6_sheetAt_0 : decode cX6_sheetAt 0 = .ok (.iload_n 1, 1) := by decide +kernel
theorem dX6_sheetAt_1 : decode cX6_sheetAt 1 = .ok (.iconst 3, 1) := by decide +kernel
theorem dX6_sheetAt_2 : decode cX6_sheetAt 2 = .ok (.invokestatic 48, 3) := by decide +kernel
theorem dX6_sheetAt_5 : decode cX6_sheetAt 5 = .ok (.ifCond .eq 12, 3) := by decide +kernel
theorem dX6_sheetAt_8 : decode cX6_sheetAt 8 = .ok (.aload_n 0, 1) := by decide +kernel
theorem dX6_sheetAt_9 : decode cX6_sheetAt 9 = .ok (.getfield 39, 3) := by decide +kernel
theorem dX6_sheetAt_12 : decode cX6_sheetAt 12 = .ok (.iload_n 1, 1) := by decide +kernel
theorem dX6_sheetAt_13 : decode cX6_sheetAt 13 = .ok (.aaload, 1) := by decide +kernel
theorem dX6_sheetAt_14 : decode cX6_sheetAt 14 = .ok (.goto 4, 3) := by decide +kernel
theorem dX6_sheetAt_17 : decode cX6_sheetAt 17 = .ok (.aconst_null, 1) := by decide +kernel
theorem dX6_sheetAt_18 : decode cX6_sheetAt 18 = .ok (.areturn, 1) := by decide +kernel
theorem dX6_wrongSheet_0 : decode cX6_wrongSheet 0 = .ok (.aload_n 0, 1) := by decide +kernel
theorem dX6_wrongSheet_1 : decode cX6_wrongSheet 1 = .ok (.ifnonnull 6, 3) := by decide +kernel
theorem dX6_wrongSheet_4 : decode cX6_wrongSheet 4 = .ok (.ldc 59, 2) := by decide +kernel
theorem dX6_wrongSheet_6 : decode cX6_wrongSheet 6 = .ok (.ireturn, 1) := by decide +kernel
theorem dX6_wrongSheet_7 : decode cX6_wrongSheet 7 = .ok (.aload_n 0, 1) := by decide +kernel
theorem dX6_wrongSheet_8 : decode cX6_wrongSheet 8 = .ok (.invokevirtual 286, 3) := by decide +kernel
theorem dX6_wrongSheet_11 : decode cX6_wrongSheet 11 = .ok (.ifCond .eq 9, 3) := by decide +kernel
theorem dX6_wrongSheet_14 : decode cX6_wrongSheet 14 = .ok (.ldc_w 265, 3) := by decide +kernel
theorem dX6_wrongSheet_17 : decode cX6_wrongSheet 17 = .ok (.goto 4, 3) := by decide +kernel
theorem dX6_wrongSheet_20 : decode cX6_wrongSheet 20 = .ok (.iconst 0, 1) := by decide +kernel
theorem dX6_wrongSheet_21 : decode cX6_wrongSheet 21 = .ok (.ireturn, 1) := by decide +kernel
theorem dX6_wrongFulness_0 : decode cX6_wrongFulness 0 = .ok (.aload_n 1, 1) := by decide +kernel
theorem dX6_wrongFulness_1 : decode cX6_wrongFulness 1 = .ok (.invokestatic 280, 3) := by decide +kernel
theorem dX6_wrongFulness_4 : decode cX6_wrongFulness 4 = .ok (.istore_n 3, 1) := by decide +kernel
theorem dX6_wrongFulness_5 : decode cX6_wrongFulness 5 = .ok (.iload_n 3, 1) := by decide +kernel
theorem dX6_wrongFulness_6 : decode cX6_wrongFulness 6 = .ok (.ifCond .eq 5, 3) := by decide +kernel
theorem dX6_wrongFulness_9 : decode cX6_wrongFulness 9 = .ok (.iload_n 3, 1) := by decide +kernel
theorem dX6_wrongFulness_10 : decode cX6_wrongFulness 10 = .ok (.ireturn, 1) := by decide +kernel
theorem dX6_wrongFulness_11 : decode cX6_wrongFulness 11 = .ok (.aload_n 0, 1) := by decide +kernel
theorem dX6_wrongFulness_12 : decode cX6_wrongFulness 12 = .ok (.getfield 12, 3) := by decide +kernel
theorem dX6_wrongFulness_15 : decode cX6_wrongFulness 15 = .ok (.iload_n 2, 1) := by decide +kernel
theorem dX6_wrongFulness_16 : decode cX6_wrongFulness 16 = .ok (.invokevirtual 81, 3) := by decide +kernel
theorem dX6_wrongFulness_19 : decode cX6_wrongFulness 19 = .ok (.ifnonnull 8, 3) := by decide +kernel
theorem dX6_wrongFulness_22 : decode cX6_wrongFulness 22 = .ok (.ldc 59, 2) := by decide +kernel
theorem dX6_wrongFulness_24 : decode cX6_wrongFulness 24 = .ok (.goto 4, 3) := by decide +kernel
theorem dX6_wrongFulness_27 : decode cX6_wrongFulness 27 = .ok (.iconst 0, 1) := by decide +kernel
theorem dX6_wrongFulness_28 : decode cX6_wrongFulness 28 = .ok (.ireturn, 1) := by decide +kernel
theorem dX6_within_0 : decode cX6_within 0 = .ok (.iload_n 0, 1) := by decide +kernel
theorem dX6_within_1 : decode cX6_within 1 = .ok (.ifCond .lt 12, 3) := by decide +kernel
theorem dX6_within_4 : decode cX6_within 4 = .ok (.iload_n 0, 1) := by decide +kernel
theorem dX6_within_5 : decode cX6_within 5 = .ok (.iload_n 1, 1) := by decide +kernel
theorem dX6_within_6 : decode cX6_within 6 = .ok (.if_icmp .gt 7, 3) := by decide +kernel
theorem dX6_within_9 : decode cX6_within 9 = .ok (.iconst 1, 1) := by decide +kernel
theorem dX6_within_10 : decode cX6_within 10 = .ok (.goto 4, 3) := by decide +kernel
theorem dX6_within_13 : decode cX6_within 13 = .ok (.iconst 0, 1) := by decide +kernel
theorem dX6_within_14 : decode cX6_within 14 = .ok (.ireturn, 1) := by decide +kernel
theorem dX6_isConfession_0 : decode cX6_isConfession 0 = .ok (.iload_n 0, 1) := by decide +kernel
theorem dX6_isConfession_1 : decode cX6_isConfession 1 = .ok (.ifCond .lt 25, 3) := by decide +kernel
theorem dX6_isConfession_4 : decode cX6_isConfession 4 = .ok (.iload_n 0, 1) := by decide +kernel
theorem dX6_isConfession_5 : decode cX6_isConfession 5 = .ok (.invokestatic 96, 3) := by decide +kernel
theorem dX6_isConfession_8 : decode cX6_isConfession 8 = .ok (.bipush 8, 2) := by decide +kernel
theorem dX6_isConfession_10 : decode cX6_isConfession 10 = .ok (.if_icmp .ge 16, 3) := by decide +kernel
theorem dX6_isConfession_13 : decode cX6_isConfession 13 = .ok (.iload_n 0, 1) := by decide +kernel
theorem dX6_isConfession_14 : decode cX6_isConfession 14 = .ok (.invokestatic 99, 3) := by decide +kernel
theorem dX6_isConfession_17 : decode cX6_isConfession 17 = .ok (.bipush 40, 2) := by decide +kernel
theorem dX6_isConfession_19 : decode cX6_isConfession 19 = .ok (.if_icmp .gt 7, 3) := by decide +kernel
theorem dX6_isConfession_22 : decode cX6_isConfession 22 = .ok (.iconst 1, 1) := by decide +kernel
theorem dX6_isConfession_23 : decode cX6_isConfession 23 = .ok (.goto 4, 3) := by decide +kernel
theorem dX6_isConfession_26 : decode cX6_isConfession 26 = .ok (.iconst 0, 1) := by decide +kernel
theorem dX6_isConfession_27 : decode cX6_isConfession 27 = .ok (.ireturn, 1) := by decide +kernel
theorem dX6_confessionOf_0 : decode cX6_confessionOf 0 = .ok (.bipush 100, 2) := by decide +kernel
theorem dX6_confessionOf_2 : decode cX6_confessionOf 2 = .ok (.iload_n 0, 1) := by decide +kernel
theorem dX6_confessionOf_3 : decode cX6_confessionOf 3 = .ok (.imul, 1) := by decide +kernel
theorem dX6_confessionOf_4 : decode cX6_confessionOf 4 = .ok (.iload_n 1, 1) := by decide +kernel
theorem dX6_confessionOf_5 : decode cX6_confessionOf 5 = .ok (.iadd, 1) := by decide +kernel
theorem dX6_confessionOf_6 : decode cX6_confessionOf 6 = .ok (.ireturn, 1) := by decide +kernel
theorem dX6_sinOf_0 : decode cX6_sinOf 0 = .ok (.iload_n 0, 1) := by decide +kernel
theorem dX6_sinOf_1 : decode cX6_sinOf 1 = .ok (.bipush 100, 2) := by decide +kernel
theorem dX6_sinOf_3 : decode cX6_sinOf 3 = .ok (.idiv, 1) := by decide +kernel
theorem dX6_sinOf_4 : decode cX6_sinOf 4 = .ok (.ireturn, 1) := by decide +kernel
theorem dX6_wordsOf_0 : decode cX6_wordsOf 0 = .ok (.iload_n 0, 1) := by decide +kernel
theorem dX6_wordsOf_1 : decode cX6_wordsOf 1 = .ok (.bipush 100, 2) := by decide +kernel
theorem dX6_wordsOf_3 : decode cX6_wordsOf 3 = .ok (.irem, 1) := by decide +kernel
theorem dX6_wordsOf_4 : decode cX6_wordsOf 4 = .ok (.ireturn, 1) := by decide +kernel
theorem dX6_changesByDays_0 : decode cX6_changesByDays 0 = .ok (.iload_n 0, 1) := by decide +kernel
theorem dX6_changesByDays_1 : decode cX6_changesByDays 1 = .ok (.iconst 1, 1) := by decide +kernel
theorem dX6_changesByDays_2 : decode cX6_changesByDays 2 = .ok (.if_icmp .eq 24, 3) := by decide +kernel
theorem dX6_changesByDays_5 : decode cX6_changesByDays 5 = .ok (.iload_n 0, 1) := by decide +kernel
theorem dX6_changesByDays_6 : decode cX6_changesByDays 6 = .ok (.iconst 3, 1) := by decide +kernel
theorem dX6_changesByDays_7 : decode cX6_changesByDays 7 = .ok (.if_icmp .eq 19, 3) := by decide +kernel
theorem dX6_changesByDays_10 : decode cX6_changesByDays 10 = .ok (.iload_n 0, 1) := by decide +kernel
theorem dX6_changesByDays_11 : decode cX6_changesByDays 11 = .ok (.iconst 4, 1) := by decide +kernel
theorem dX6_changesByDays_12 : decode cX6_changesByDays 12 = .ok (.if_icmp .eq 14, 3) := by decide +kernel
theorem dX6_changesByDays_15 : decode cX6_changesByDays 15 = .ok (.iload_n 0, 1) := by decide +kernel
theorem dX6_changesByDays_16 : decode cX6_changesByDays 16 = .ok (.iconst 5, 1) := by decide +kernel
theorem dX6_changesByDays_17 : decode cX6_changesByDays 17 = .ok (.if_icmp .eq 9, 3) := by decide +kernel
theorem dX6_changesByDays_20 : decode cX6_changesByDays 20 = .ok (.iload_n 0, 1) := by decide +kernel
theorem dX6_changesByDays_21 : decode cX6_changesByDays 21 = .ok (.bipush 6, 2) := by decide +kernel
theorem dX6_changesByDays_23 : decode cX6_changesByDays 23 = .ok (.if_icmp .ne 7, 3) := by decide +kernel
theorem dX6_changesByDays_26 : decode cX6_changesByDays 26 = .ok (.iconst 1, 1) := by decide +kernel
theorem dX6_changesByDays_27 : decode cX6_changesByDays 27 = .ok (.goto 4, 3) := by decide +kernel
theorem dX6_changesByDays_30 : decode cX6_changesByDays 30 = .ok (.iconst 0, 1) := by decide +kernel
theorem dX6_changesByDays_31 : decode cX6_changesByDays 31 = .ok (.ireturn, 1) := by decide +kernel
theorem dX6_power_0 : decode cX6_power 0 = .ok (.lconst 1, 1) := by decide +kernel
theorem dX6_power_1 : decode cX6_power 1 = .ok (.lstore_n 2, 1) := by decide +kernel
theorem dX6_power_2 : decode cX6_power 2 = .ok (.iconst 0, 1) := by decide +kernel
theorem dX6_power_3 : decode cX6_power 3 = .ok (.istore 4, 2) := by decide +kernel
theorem dX6_power_5 : decode cX6_power 5 = .ok (.iload 4, 2) := by decide +kernel
theorem dX6_power_7 : decode cX6_power 7 = .ok (.iload_n 1, 1) := by decide +kernel
theorem dX6_power_8 : decode cX6_power 8 = .ok (.if_icmp .ge 14, 3) := by decide +kernel
theorem dX6_power_11 : decode cX6_power 11 = .ok (.lload_n 2, 1) := by decide +kernel
theorem dX6_power_12 : decode cX6_power 12 = .ok (.iload_n 0, 1) := by decide +kernel
theorem dX6_power_13 : decode cX6_power 13 = .ok (.i2l, 1) := by decide +kernel
theorem dX6_power_14 : decode cX6_power 14 = .ok (.lmul, 1) := by decide +kernel
theorem dX6_power_15 : decode cX6_power 15 = .ok (.lstore_n 2, 1) := by decide +kernel
theorem dX6_power_16 : decode cX6_power 16 = .ok (.iinc 4 1, 3) := by decide +kernel
theorem dX6_power_19 : decode cX6_power 19 = .ok (.goto (-14), 3) := by decide +kernel
theorem dX6_power_22 : decode cX6_power 22 = .ok (.lload_n 2, 1) := by decide +kernel
theorem dX6_power_23 : decode cX6_power 23 = .ok (.lreturn, 1) := by decide +kernel
theorem dX7_init_0 : decode cX7_init 0 = .ok (.aload_n 0, 1) := by decide +kernel
theorem dX7_init_1 : decode cX7_init 1 = .ok (.invokespecial 1, 3) := by decide +kernel
theorem dX7_init_4 : decode cX7_init 4 = .ok (.aload_n 0, 1) := by decide +kernel
theorem dX7_init_5 : decode cX7_init 5 = .ok (.bipush 70, 2) := by decide +kernel
theorem dX7_init_7 : decode cX7_init 7 = .ok (.newarray .int, 2) := by decide +kernel
theorem dX7_init_9 : decode cX7_init 9 = .ok (.putfield 7, 3) := by decide +kernel
theorem dX7_init_12 : decode cX7_init 12 = .ok (.aload_n 0, 1) := by decide +kernel
theorem dX7_init_13 : decode cX7_init 13 = .ok (.bipush 70, 2) := by decide +kernel
theorem dX7_init_15 : decode cX7_init 15 = .ok (.newarray .int, 2) := by decide +kernel
theorem dX7_init_17 : decode cX7_init 17 = .ok (.putfield 13, 3) := by decide +kernel
theorem dX7_init_20 : decode cX7_init 20 = .ok (.aload_n 0, 1) := by decide +kernel
theorem dX7_init_21 : decode cX7_init 21 = .ok (.bipush 70, 2) := by decide +kernel
theorem dX7_init_23 : decode cX7_init 23 = .ok (.newarray .int, 2) := by decide +kernel
theorem dX7_init_25 : decode cX7_init 25 = .ok (.putfield 16, 3) := by decide +kernel
theorem dX7_init_28 : decode cX7_init 28 = .ok (.aload_n 0, 1) := by decide +kernel
theorem dX7_init_29 : decode cX7_init 29 = .ok (.bipush 70, 2) := by decide +kernel
theorem dX7_init_31 : decode cX7_init 31 = .ok (.newarray .int, 2) := by decide +kernel
theorem dX7_init_33 : decode cX7_init 33 = .ok (.putfield 19, 3) := by decide +kernel
theorem dX7_init_36 : decode cX7_init 36 = .ok (.aload_n 0, 1) := by decide +kernel
theorem dX7_init_37 : decode cX7_init 37 = .ok (.bipush 7, 2) := by decide +kernel
theorem dX7_init_39 : decode cX7_init 39 = .ok (.newarray .int, 2) := by decide +kernel
theorem dX7_init_41 : decode cX7_init 41 = .ok (.putfield 22, 3) := by decide +kernel
theorem dX7_init_44 : decode cX7_init 44 = .ok (.aload_n 0, 1) := by decide +kernel
theorem dX7_init_45 : decode cX7_init 45 = .ok (.bipush 120, 2) := by decide +kernel
theorem dX7_init_47 : decode cX7_init 47 = .ok (.newarray .byte, 2) := by decide +kernel
theorem dX7_init_49 : decode cX7_init 49 = .ok (.putfield 25, 3) := by decide +kernel
theorem dX7_init_52 : decode cX7_init 52 = .ok (.aload_n 0, 1) := by decide +kernel
theorem dX7_init_53 : decode cX7_init 53 = .ok (.iconst 4, 1) := by decide +kernel
theorem dX7_init_54 : decode cX7_init 54 = .ok (.newarray .int, 2) := by decide +kernel
theorem dX7_init_56 : decode cX7_init 56 = .ok (.putfield 29, 3) := by decide +kernel
theorem dX7_init_59 : decode cX7_init 59 = .ok (.aload_n 0, 1) := by decide +kernel
theorem dX7_init_60 : decode cX7_init 60 = .ok (.iconst 4, 1) := by decide +kernel
theorem dX7_init_61 : decode cX7_init 61 = .ok (.newarray .int, 2) := by decide +kernel
theorem dX7_init_63 : decode cX7_init 63 = .ok (.putfield 32, 3) := by decide +kernel
theorem dX7_init_66 : decode cX7_init 66 = .ok (.aload_n 0, 1) := by decide +kernel
theorem dX7_init_67 : decode cX7_init 67 = .ok (.sipush 160, 3) := by decide +kernel
theorem dX7_init_70 : decode cX7_init 70 = .ok (.newarray .int, 2) := by decide +kernel
theorem dX7_init_72 : decode cX7_init 72 = .ok (.putfield 35, 3) := by decide +kernel
theorem dX7_init_75 : decode cX7_init 75 = .ok (.aload_n 0, 1) := by decide +kernel
theorem dX7_init_76 : decode cX7_init 76 = .ok (.bipush 40, 2) := by decide +kernel
theorem dX7_init_78 : decode cX7_init 78 = .ok (.newarray .int, 2) := by decide +kernel
theorem dX7_init_80 : decode cX7_init 80 = .ok (.putfield 38, 3) := by decide +kernel
theorem dX7_init_83 : decode cX7_init 83 = .ok (.aload_n 0, 1) := by decide +kernel
theorem dX7_init_84 : decode cX7_init 84 = .ok (.getfield 7, 3) := by decide +kernel
theorem dX7_init_87 : decode cX7_init 87 = .ok (.iconst 2, 1) := by decide +kernel
theorem dX7_init_88 : decode cX7_init 88 = .ok (.iconst 1, 1) := by decide +kernel
theorem dX7_init_89 : decode cX7_init 89 = .ok (.iastore, 1) := by decide +kernel
theorem dX7_init_90 : decode cX7_init 90 = .ok (.aload_n 0, 1) := by decide +kernel
theorem dX7_init_91 : decode cX7_init 91 = .ok (.getfield 7, 3) := by decide +kernel
theorem dX7_init_94 : decode cX7_init 94 = .ok (.iconst 3, 1) := by decide +kernel
theorem dX7_init_95 : decode cX7_init 95 = .ok (.iconst 2, 1) := by decide +kernel
theorem dX7_init_96 : decode cX7_init 96 = .ok (.iastore, 1) := by decide +kernel
theorem dX7_init_97 : decode cX7_init 97 = .ok (.return_, 1) := by decide +kernel
theorem dX7_finds_0 : decode cX7_finds 0 = .ok (.aload_n 0, 1) := by decide +kernel
theorem dX7_finds_1 : decode cX7_finds 1 = .ok (.getfield 22, 3) := by decide +kernel
theorem dX7_finds_4 : decode cX7_finds 4 = .ok (.iload_n 1, 1) := by decide +kernel
theorem dX7_finds_5 : decode cX7_finds 5 = .ok (.dup2, 1) := by decide +kernel
theorem dX7_finds_6 : decode cX7_finds 6 = .ok (.iaload, 1) := by decide +kernel
theorem dX7_finds_7 : decode cX7_finds 7 = .ok (.iconst 1, 1) := by decide +kernel
theorem dX7_finds_8 : decode cX7_finds 8 = .ok (.iadd, 1) := by decide +kernel
theorem dX7_finds_9 : decode cX7_finds 9 = .ok (.iastore, 1) := by decide +kernel
theorem dX7_finds_10 : decode cX7_finds 10 = .ok (.ldc 41, 2) := by decide +kernel
theorem dX7_finds_12 : decode cX7_finds 12 = .ok (.iload_n 1, 1) := by decide +kernel
theorem dX7_finds_13 : decode cX7_finds 13 = .ok (.isub, 1) := by decide +kernel
theorem dX7_finds_14 : decode cX7_finds 14 = .ok (.ireturn, 1) := by decide +kernel
theorem dX7_in_0 : decode cX7_in 0 = .ok (.lload_n 0, 1) := by decide +kernel
theorem dX7_in_1 : decode cX7_in 1 = .ok (.lload_n 2, 1) := by decide +kernel
theorem dX7_in_2 : decode cX7_in 2 = .ok (.lcmp, 1) := by decide +kernel
end
section
theorem dX7_in_3 : decode cX7_in 3 = .ok (.ifCond .lt 14, 3) := by decide +kernel
theorem dX7_in_6 : decode cX7_in 6 = .ok (.lload_n 0, 1) := by decide +kernel
theorem dX7_in_7 : decode cX7_in 7 = .ok (.lload 4, 2) := by decide +kernel
theorem dX7_in_9 : decode cX7_in 9 = .ok (.lcmp, 1) := by decide +kernel
theorem dX7_in_10 : decode cX7_in 10 = .ok (.ifCond .gt 7, 3) := by decide +kernel
theorem dX7_in_13 : decode cX7_in 13 = .ok (.iconst 1, 1) := by decide +kernel
theorem dX7_in_14 : decode cX7_in 14 = .ok (.goto 4, 3) := by decide +kernel
theorem dX7_in_17 : decode cX7_in 17 = .ok (.iconst 0, 1) := by decide +kernel
theorem dX7_in_18 : decode cX7_in 18 = .ok (.ireturn, 1) := by decide +kernel
theorem dX7_held_0 : decode cX7_held 0 = .ok (.iload_n 0, 1) := by decide +kernel
theorem dX7_held_1 : decode cX7_held 1 = .ok (.iload_n 1, 1) := by decide +kernel
theorem dX7_held_2 : decode cX7_held 2 = .ok (.if_icmp .ge 7, 3) := by decide +kernel
theorem dX7_held_5 : decode cX7_held 5 = .ok (.iload_n 1, 1) := by decide +kernel
theorem dX7_held_6 : decode cX7_held 6 = .ok (.goto 13, 3) := by decide +kernel
theorem dX7_held_9 : decode cX7_held 9 = .ok (.iload_n 0, 1) := by decide +kernel
theorem dX7_held_10 : decode cX7_held 10 = .ok (.iload_n 2, 1) := by decide +kernel
theorem dX7_held_11 : decode cX7_held 11 = .ok (.if_icmp .le 7, 3) := by decide +kernel
theorem dX7_held_14 : decode cX7_held 14 = .ok (.iload_n 2, 1) := by decide +kernel
theorem dX7_held_15 : decode cX7_held 15 = .ok (.goto 4, 3) := by decide +kernel
theorem dX7_held_18 : decode cX7_held 18 = .ok (.iload_n 0, 1) := by decide +kernel
theorem dX7_held_19 : decode cX7_held 19 = .ok (.ireturn, 1) := by decide +kernel
theorem dX7_copies_0 : decode cX7_copies 0 = .ok (.iconst 0, 1) := by decide +kernel
theorem dX7_copies_1 : decode cX7_copies 1 = .ok (.istore_n 2, 1) := by decide +kernel
theorem dX7_copies_2 : decode cX7_copies 2 = .ok (.iload_n 2, 1) := by decide +kernel
theorem dX7_copies_3 : decode cX7_copies 3 = .ok (.bipush 70, 2) := by decide +kernel
theorem dX7_copies_5 : decode cX7_copies 5 = .ok (.if_icmp .ge 15, 3) := by decide +kernel
theorem dX7_copies_8 : decode cX7_copies 8 = .ok (.aload_n 1, 1) := by decide +kernel
theorem dX7_copies_9 : decode cX7_copies 9 = .ok (.iload_n 2, 1) := by decide +kernel
theorem dX7_copies_10 : decode cX7_copies 10 = .ok (.aload_n 0, 1) := by decide +kernel
theorem dX7_copies_11 : decode cX7_copies 11 = .ok (.iload_n 2, 1) := by decide +kernel
theorem dX7_copies_12 : decode cX7_copies 12 = .ok (.iaload, 1) := by decide +kernel
theorem dX7_copies_13 : decode cX7_copies 13 = .ok (.iastore, 1) := by decide +kernel
theorem dX7_copies_14 : decode cX7_copies 14 = .ok (.iinc 2 1, 3) := by decide +kernel
theorem dX7_copies_17 : decode cX7_copies 17 = .ok (.goto (-15), 3) := by decide +kernel
theorem dX7_copies_20 : decode cX7_copies 20 = .ok (.return_, 1) := by decide +kernel
theorem dX7_isPriest_0 : decode cX7_isPriest 0 = .ok (.iload_n 1, 1) := by decide +kernel
theorem dX7_isPriest_1 : decode cX7_isPriest 1 = .ok (.i2l, 1) := by decide +kernel
theorem dX7_isPriest_2 : decode cX7_isPriest 2 = .ok (.lconst 0, 1) := by decide +kernel
theorem dX7_isPriest_3 : decode cX7_isPriest 3 = .ok (.aload_n 0, 1) := by decide +kernel
theorem dX7_isPriest_4 : decode cX7_isPriest 4 = .ok (.getfield 7, 3) := by decide +kernel
theorem dX7_isPriest_7 : decode cX7_isPriest 7 = .ok (.iconst 0, 1) := by decide +kernel
theorem dX7_isPriest_8 : decode cX7_isPriest 8 = .ok (.iaload, 1) := by decide +kernel
theorem dX7_isPriest_9 : decode cX7_isPriest 9 = .ok (.iconst 1, 1) := by decide +kernel
theorem dX7_isPriest_10 : decode cX7_isPriest 10 = .ok (.isub, 1) := by decide +kernel
theorem dX7_isPriest_11 : decode cX7_isPriest 11 = .ok (.i2l, 1) := by decide +kernel
theorem dX7_isPriest_12 : decode cX7_isPriest 12 = .ok (.invokestatic 42, 3) := by decide +kernel
theorem dX7_isPriest_15 : decode cX7_isPriest 15 = .ok (.ireturn, 1) := by decide +kernel
theorem dX7_isSin_0 : decode cX7_isSin 0 = .ok (.iload_n 0, 1) := by decide +kernel
theorem dX7_isSin_1 : decode cX7_isSin 1 = .ok (.i2l, 1) := by decide +kernel
theorem dX7_isSin_2 : decode cX7_isSin 2 = .ok (.lconst 0, 1) := by decide +kernel
theorem dX7_isSin_3 : decode cX7_isSin 3 = .ok (.ldc2_w 46, 3) := by decide +kernel
theorem dX7_isSin_6 : decode cX7_isSin 6 = .ok (.invokestatic 42, 3) := by decide +kernel
theorem dX7_isSin_9 : decode cX7_isSin 9 = .ok (.ireturn, 1) := by decide +kernel
theorem dX7_isPlace_0 : decode cX7_isPlace 0 = .ok (.iload_n 0, 1) := by decide +kernel
theorem dX7_isPlace_1 : decode cX7_isPlace 1 = .ok (.i2l, 1) := by decide +kernel
theorem dX7_isPlace_2 : decode cX7_isPlace 2 = .ok (.lconst 0, 1) := by decide +kernel
theorem dX7_isPlace_3 : decode cX7_isPlace 3 = .ok (.ldc2_w 48, 3) := by decide +kernel
theorem dX7_isPlace_6 : decode cX7_isPlace 6 = .ok (.invokestatic 42, 3) := by decide +kernel
theorem dX7_isPlace_9 : decode cX7_isPlace 9 = .ok (.ireturn, 1) := by decide +kernel
theorem dX7_areSins_0 : decode cX7_areSins 0 = .ok (.iload_n 0, 1) := by decide +kernel
theorem dX7_areSins_1 : decode cX7_areSins 1 = .ok (.i2l, 1) := by decide +kernel
theorem dX7_areSins_2 : decode cX7_areSins 2 = .ok (.lconst 0, 1) := by decide +kernel
theorem dX7_areSins_3 : decode cX7_areSins 3 = .ok (.ldc2_w 50, 3) := by decide +kernel
theorem dX7_areSins_6 : decode cX7_areSins 6 = .ok (.invokestatic 42, 3) := by decide +kernel
theorem dX7_areSins_9 : decode cX7_areSins 9 = .ok (.ireturn, 1) := by decide +kernel
theorem dX7_isConfession_0 : decode cX7_isConfession 0 = .ok (.iload_n 0, 1) := by decide +kernel
theorem dX7_isConfession_1 : decode cX7_isConfession 1 = .ok (.i2l, 1) := by decide +kernel
theorem dX7_isConfession_2 : decode cX7_isConfession 2 = .ok (.lconst 0, 1) := by decide +kernel
theorem dX7_isConfession_3 : decode cX7_isConfession 3 = .ok (.ldc2_w 52, 3) := by decide +kernel
theorem dX7_isConfession_6 : decode cX7_isConfession 6 = .ok (.invokestatic 42, 3) := by decide +kernel
theorem dX7_isConfession_9 : decode cX7_isConfession 9 = .ok (.ifCond .eq 16, 3) := by decide +kernel
theorem dX7_isConfession_12 : decode cX7_isConfession 12 = .ok (.iload_n 0, 1) := by decide +kernel
theorem dX7_isConfession_13 : decode cX7_isConfession 13 = .ok (.bipush 100, 2) := by decide +kernel
theorem dX7_isConfession_15 : decode cX7_isConfession 15 = .ok (.irem, 1) := by decide +kernel
theorem dX7_isConfession_16 : decode cX7_isConfession 16 = .ok (.bipush 40, 2) := by decide +kernel
theorem dX7_isConfession_18 : decode cX7_isConfession 18 = .ok (.if_icmp .gt 7, 3) := by decide +kernel
theorem dX7_isConfession_21 : decode cX7_isConfession 21 = .ok (.iconst 1, 1) := by decide +kernel
theorem dX7_isConfession_22 : decode cX7_isConfession 22 = .ok (.goto 4, 3) := by decide +kernel
theorem dX7_isConfession_25 : decode cX7_isConfession 25 = .ok (.iconst 0, 1) := by decide +kernel
theorem dX7_isConfession_26 : decode cX7_isConfession 26 = .ok (.ireturn, 1) := by decide +kernel
theorem dX7_its_0 : decode cX7_its 0 = .ok (.aload_n 0, 1) := by decide +kernel
theorem dX7_its_1 : decode cX7_its 1 = .ok (.getfield 7, 3) := by decide +kernel
theorem dX7_its_4 : decode cX7_its 4 = .ok (.bipush 12, 2) := by decide +kernel
theorem dX7_its_6 : decode cX7_its 6 = .ok (.bipush 8, 2) := by decide +kernel
theorem dX7_its_8 : decode cX7_its 8 = .ok (.iload_n 2, 1) := by decide +kernel
theorem dX7_its_9 : decode cX7_its 9 = .ok (.imul, 1) := by decide +kernel
theorem dX7_its_10 : decode cX7_its 10 = .ok (.iadd, 1) := by decide +kernel
theorem dX7_its_11 : decode cX7_its 11 = .ok (.iload_n 1, 1) := by decide +kernel
theorem dX7_its_12 : decode cX7_its 12 = .ok (.iadd, 1) := by decide +kernel
theorem dX7_its_13 : decode cX7_its 13 = .ok (.iaload, 1) := by decide +kernel
theorem dX7_its_14 : decode cX7_its 14 = .ok (.ireturn, 1) := by decide +kernel
theorem dX7_sets_0 : decode cX7_sets 0 = .ok (.aload_n 0, 1) := by decide +kernel
theorem dX7_sets_1 : decode cX7_sets 1 = .ok (.getfield 7, 3) := by decide +kernel
theorem dX7_sets_4 : decode cX7_sets 4 = .ok (.bipush 12, 2) := by decide +kernel
theorem dX7_sets_6 : decode cX7_sets 6 = .ok (.bipush 8, 2) := by decide +kernel
theorem dX7_sets_8 : decode cX7_sets 8 = .ok (.iload_n 2, 1) := by decide +kernel
theorem dX7_sets_9 : decode cX7_sets 9 = .ok (.imul, 1) := by decide +kernel
theorem dX7_sets_10 : decode cX7_sets 10 = .ok (.iadd, 1) := by decide +kernel
theorem dX7_sets_11 : decode cX7_sets 11 = .ok (.iload_n 1, 1) := by decide +kernel
theorem dX7_sets_12 : decode cX7_sets 12 = .ok (.iadd, 1) := by decide +kernel
theorem dX7_sets_13 : decode cX7_sets 13 = .ok (.iload_n 3, 1) := by decide +kernel
theorem dX7_sets_14 : decode cX7_sets 14 = .ok (.iastore, 1) := by decide +kernel
theorem dX7_sets_15 : decode cX7_sets 15 = .ok (.return_, 1) := by decide +kernel
theorem dX7_becomes_0 : decode cX7_becomes 0 = .ok (.aload_n 0, 1) := by decide +kernel
theorem dX7_becomes_1 : decode cX7_becomes 1 = .ok (.getfield 7, 3) := by decide +kernel
theorem dX7_becomes_4 : decode cX7_becomes 4 = .ok (.iload_n 1, 1) := by decide +kernel
theorem dX7_becomes_5 : decode cX7_becomes 5 = .ok (.iaload, 1) := by decide +kernel
theorem dX7_becomes_6 : decode cX7_becomes 6 = .ok (.istore_n 3, 1) := by decide +kernel
theorem dX7_becomes_7 : decode cX7_becomes 7 = .ok (.aload_n 0, 1) := by decide +kernel
theorem dX7_becomes_8 : decode cX7_becomes 8 = .ok (.getfield 7, 3) := by decide +kernel
theorem dX7_becomes_11 : decode cX7_becomes 11 = .ok (.iload_n 1, 1) := by decide +kernel
theorem dX7_becomes_12 : decode cX7_becomes 12 = .ok (.iload_n 2, 1) := by decide +kernel
theorem dX7_becomes_13 : decode cX7_becomes 13 = .ok (.iastore, 1) := by decide +kernel
theorem dX7_becomes_14 : decode cX7_becomes 14 = .ok (.iload_n 3, 1) := by decide +kernel
theorem dX7_becomes_15 : decode cX7_becomes 15 = .ok (.ireturn, 1) := by decide +kernel
theorem dX7_ones_0 : decode cX7_ones 0 = .ok (.iconst 0, 1) := by decide +kernel
theorem dX7_ones_1 : decode cX7_ones 1 = .ok (.istore_n 1, 1) := by decide +kernel
theorem dX7_ones_2 : decode cX7_ones 2 = .ok (.iconst 0, 1) := by decide +kernel
theorem dX7_ones_3 : decode cX7_ones 3 = .ok (.istore_n 2, 1) := by decide +kernel
theorem dX7_ones_4 : decode cX7_ones 4 = .ok (.iload_n 2, 1) := by decide +kernel
theorem dX7_ones_5 : decode cX7_ones 5 = .ok (.bipush 8, 2) := by decide +kernel
theorem dX7_ones_7 : decode cX7_ones 7 = .ok (.if_icmp .ge 17, 3) := by decide +kernel
theorem dX7_ones_10 : decode cX7_ones 10 = .ok (.iload_n 1, 1) := by decide +kernel
theorem dX7_ones_11 : decode cX7_ones 11 = .ok (.iload_n 0, 1) := by decide +kernel
theorem dX7_ones_12 : decode cX7_ones 12 = .ok (.iload_n 2, 1) := by decide +kernel
theorem dX7_ones_13 : decode cX7_ones 13 = .ok (.ishr, 1) := by decide +kernel
theorem dX7_ones_14 : decode cX7_ones 14 = .ok (.iconst 1, 1) := by decide +kernel
theorem dX7_ones_15 : decode cX7_ones 15 = .ok (.iand, 1) := by decide +kernel
theorem dX7_ones_16 : decode cX7_ones 16 = .ok (.iadd, 1) := by decide +kernel
theorem dX7_ones_17 : decode cX7_ones 17 = .ok (.istore_n 1, 1) := by decide +kernel
theorem dX7_ones_18 : decode cX7_ones 18 = .ok (.iinc 2 1, 3) := by decide +kernel
theorem dX7_ones_21 : decode cX7_ones 21 = .ok (.goto (-17), 3) := by decide +kernel
theorem dX7_ones_24 : decode cX7_ones 24 = .ok (.iload_n 1, 1) := by decide +kernel
theorem dX7_ones_25 : decode cX7_ones 25 = .ok (.ireturn, 1) := by decide +kernel
theorem dX7_holds_0 : decode cX7_holds 0 = .ok (.aload_n 0, 1) := by decide +kernel
theorem dX7_holds_1 : decode cX7_holds 1 = .ok (.iload_n 1, 1) := by decide +kernel
theorem dX7_holds_2 : decode cX7_holds 2 = .ok (.iconst 3, 1) := by decide +kernel
theorem dX7_holds_3 : decode cX7_holds 3 = .ok (.invokevirtual 54, 3) := by decide +kernel
theorem dX7_holds_6 : decode cX7_holds 6 = .ok (.invokestatic 58, 3) := by decide +kernel
theorem dX7_holds_9 : decode cX7_holds 9 = .ok (.istore_n 2, 1) := by decide +kernel
theorem dX7_holds_10 : decode cX7_holds 10 = .ok (.iload_n 2, 1) := by decide +kernel
theorem dX7_holds_11 : decode cX7_holds 11 = .ok (.ifCond .ne 8, 3) := by decide +kernel
theorem dX7_holds_14 : decode cX7_holds 14 = .ok (.bipush 30, 2) := by decide +kernel
theorem dX7_holds_16 : decode cX7_holds 16 = .ok (.goto 5, 3) := by decide +kernel
theorem dX7_holds_19 : decode cX7_holds 19 = .ok (.bipush 60, 2) := by decide +kernel
theorem dX7_holds_21 : decode cX7_holds 21 = .ok (.istore_n 3, 1) := by decide +kernel
theorem dX7_holds_22 : decode cX7_holds 22 = .ok (.aload_n 0, 1) := by decide +kernel
theorem dX7_holds_23 : decode cX7_holds 23 = .ok (.iload_n 1, 1) := by decide +kernel
theorem dX7_holds_24 : decode cX7_holds 24 = .ok (.iconst 0, 1) := by decide +kernel
theorem dX7_holds_25 : decode cX7_holds 25 = .ok (.invokevirtual 54, 3) := by decide +kernel
theorem dX7_holds_28 : decode cX7_holds 28 = .ok (.tableswitch 82 1 6 #[40, 59, 43, 50, 66, 61], 40) := by decide +kernel
theorem dX7_holds_68 : decode cX7_holds 68 = .ok (.bipush 40, 2) := by decide +kernel
theorem dX7_holds_70 : decode cX7_holds 70 = .ok (.ireturn, 1) := by decide +kernel
theorem dX7_holds_71 : decode cX7_holds 71 = .ok (.bipush 40, 2) := by decide +kernel
theorem dX7_holds_73 : decode cX7_holds 73 = .ok (.iconst 5, 1) := by decide +kernel
theorem dX7_holds_74 : decode cX7_holds 74 = .ok (.iload_n 2, 1) := by decide +kernel
theorem dX7_holds_75 : decode cX7_holds 75 = .ok (.imul, 1) := by decide +kernel
theorem dX7_holds_76 : decode cX7_holds 76 = .ok (.iadd, 1) := by decide +kernel
theorem dX7_holds_77 : decode cX7_holds 77 = .ok (.ireturn, 1) := by decide +kernel
theorem dX7_holds_78 : decode cX7_holds 78 = .ok (.iconst 2, 1) := by decide +kernel
theorem dX7_holds_79 : decode cX7_holds 79 = .ok (.bipush 40, 2) := by decide +kernel
theorem dX7_holds_81 : decode cX7_holds 81 = .ok (.iconst 5, 1) := by decide +kernel
theorem dX7_holds_82 : decode cX7_holds 82 = .ok (.iload_n 2, 1) := by decide +kernel
theorem dX7_holds_83 : decode cX7_holds 83 = .ok (.imul, 1) := by decide +kernel
theorem dX7_holds_84 : decode cX7_holds 84 = .ok (.iadd, 1) := by decide +kernel
theorem dX7_holds_85 : decode cX7_holds 85 = .ok (.imul, 1) := by decide +kernel
theorem dX7_holds_86 : decode cX7_holds 86 = .ok (.ireturn, 1) := by decide +kernel
theorem dX7_holds_87 : decode cX7_holds 87 = .ok (.iload_n 3, 1) := by decide +kernel
theorem dX7_holds_88 : decode cX7_holds 88 = .ok (.ireturn, 1) := by decide +kernel
theorem dX7_holds_89 : decode cX7_holds 89 = .ok (.iload_n 3, 1) := by decide +kernel
theorem dX7_holds_90 : decode cX7_holds 90 = .ok (.bipush 40, 2) := by decide +kernel
theorem dX7_holds_92 : decode cX7_holds 92 = .ok (.iadd, 1) := by decide +kernel
theorem dX7_holds_93 : decode cX7_holds 93 = .ok (.ireturn, 1) := by decide +kernel
theorem dX7_holds_94 : decode cX7_holds 94 = .ok (.bipush 60, 2) := by decide +kernel
theorem dX7_holds_96 : decode cX7_holds 96 = .ok (.aload_n 0, 1) := by decide +kernel
theorem dX7_holds_97 : decode cX7_holds 97 = .ok (.iload_n 1, 1) := by decide +kernel
theorem dX7_holds_98 : decode cX7_holds 98 = .ok (.iconst 4, 1) := by decide +kernel
theorem dX7_holds_99 : decode cX7_holds 99 = .ok (.invokevirtual 54, 3) := by decide +kernel
theorem dX7_holds_102 : decode cX7_holds 102 = .ok (.iadd, 1) := by decide +kernel
theorem dX7_holds_103 : decode cX7_holds 103 = .ok (.iconst 0, 1) := by decide +kernel
theorem dX7_holds_104 : decode cX7_holds 104 = .ok (.bipush 99, 2) := by decide +kernel
theorem dX7_holds_106 : decode cX7_holds 106 = .ok (.invokestatic 62, 3) := by decide +kernel
theorem dX7_holds_109 : decode cX7_holds 109 = .ok (.ireturn, 1) := by decide +kernel
theorem dX7_holds_110 : decode cX7_holds 110 = .ok (.bipush 60, 2) := by decide +kernel
theorem dX7_holds_112 : decode cX7_holds 112 = .ok (.ireturn, 1) := by decide +kernel
theorem dX7_room_0 : decode cX7_room 0 = .ok (.aload_n 0, 1) := by decide +kernel
theorem dX7_room_1 : decode cX7_room 1 = .ok (.iload_n 1, 1) := by decide +kernel
theorem dX7_room_2 : decode cX7_room 2 = .ok (.invokevirtual 66, 3) := by decide +kernel
theorem dX7_room_5 : decode cX7_room 5 = .ok (.aload_n 0, 1) := by decide +kernel
theorem dX7_room_6 : decode cX7_room 6 = .ok (.iload_n 1, 1) := by decide +kernel
theorem dX7_room_7 : decode cX7_room 7 = .ok (.iconst 1, 1) := by decide +kernel
theorem dX7_room_8 : decode cX7_room 8 = .ok (.invokevirtual 54, 3) := by decide +kernel
theorem dX7_room_11 : decode cX7_room 11 = .ok (.isub, 1) := by decide +kernel
theorem dX7_room_12 : decode cX7_room 12 = .ok (.ireturn, 1) := by decide +kernel
theorem dX7_swellsBy_0 : decode cX7_swellsBy 0 = .ok (.iload_n 3, 1) := by decide +kernel
theorem dX7_swellsBy_1 : decode cX7_swellsBy 1 = .ok (.aload_n 0, 1) := by decide +kernel
theorem dX7_swellsBy_2 : decode cX7_swellsBy 2 = .ok (.getfield 7, 3) := by decide +kernel
theorem dX7_swellsBy_5 : decode cX7_swellsBy 5 = .ok (.iconst 3, 1) := by decide +kernel
theorem dX7_swellsBy_6 : decode cX7_swellsBy 6 = .ok (.iaload, 1) := by decide +kernel
theorem dX7_swellsBy_7 : decode cX7_swellsBy 7 = .ok (.isub, 1) := by decide +kernel
theorem dX7_swellsBy_8 : decode cX7_swellsBy 8 = .ok (.iconst 0, 1) := by decide +kernel
theorem dX7_swellsBy_9 : decode cX7_swellsBy 9 = .ok (.bipush 40, 2) := by decide +kernel
theorem dX7_swellsBy_11 : decode cX7_swellsBy 11 = .ok (.invokestatic 62, 3) := by decide +kernel
theorem dX7_swellsBy_14 : decode cX7_swellsBy 14 = .ok (.istore 4, 2) := by decide +kernel
theorem dX7_swellsBy_16 : decode cX7_swellsBy 16 = .ok (.iload_n 2, 1) := by decide +kernel
theorem dX7_swellsBy_17 : decode cX7_swellsBy 17 = .ok (.iconst 3, 1) := by decide +kernel
theorem dX7_swellsBy_18 : decode cX7_swellsBy 18 = .ok (.if_icmp .ne 9, 3) := by decide +kernel
theorem dX7_swellsBy_21 : decode cX7_swellsBy 21 = .ok (.iload_n 3, 1) := by decide +kernel
theorem dX7_swellsBy_22 : decode cX7_swellsBy 22 = .ok (.iconst 3, 1) := by decide +kernel
theorem dX7_swellsBy_23 : decode cX7_swellsBy 23 = .ok (.idiv, 1) := by decide +kernel
theorem dX7_swellsBy_24 : decode cX7_swellsBy 24 = .ok (.goto 4, 3) := by decide +kernel
theorem dX7_swellsBy_27 : decode cX7_swellsBy 27 = .ok (.iload_n 3, 1) := by decide +kernel
theorem dX7_swellsBy_28 : decode cX7_swellsBy 28 = .ok (.istore 5, 2) := by decide +kernel
theorem dX7_swellsBy_30 : decode cX7_swellsBy 30 = .ok (.aload_n 0, 1) := by decide +kernel
theorem dX7_swellsBy_31 : decode cX7_swellsBy 31 = .ok (.iload_n 1, 1) := by decide +kernel
theorem dX7_swellsBy_32 : decode cX7_swellsBy 32 = .ok (.iconst 0, 1) := by decide +kernel
theorem dX7_swellsBy_33 : decode cX7_swellsBy 33 = .ok (.invokevirtual 54, 3) := by decide +kernel
theorem dX7_swellsBy_36 : decode cX7_swellsBy 36 = .ok (.tableswitch 89 1 6 #[40, 58, 43, 43, 66, 61], 40) := by decide +kernel
theorem dX7_swellsBy_76 : decode cX7_swellsBy 76 = .ok (.iload 4, 2) := by decide +kernel
theorem dX7_swellsBy_78 : decode cX7_swellsBy 78 = .ok (.ireturn, 1) := by decide +kernel
theorem dX7_swellsBy_79 : decode cX7_swellsBy 79 = .ok (.iload 4, 2) := by decide +kernel
theorem dX7_swellsBy_81 : decode cX7_swellsBy 81 = .ok (.iload_n 2, 1) := by decide +kernel
theorem dX7_swellsBy_82 : decode cX7_swellsBy 82 = .ok (.iconst 2, 1) := by decide +kernel
theorem dX7_swellsBy_83 : decode cX7_swellsBy 83 = .ok (.irem, 1) := by decide +kernel
theorem dX7_swellsBy_84 : decode cX7_swellsBy 84 = .ok (.ifCond .ne 7, 3) := by decide +kernel
theorem dX7_swellsBy_87 : decode cX7_swellsBy 87 = .ok (.iconst 5, 1) := by decide +kernel
theorem dX7_swellsBy_88 : decode cX7_swellsBy 88 = .ok (.goto 4, 3) := by decide +kernel
theorem dX7_swellsBy_91 : decode cX7_swellsBy 91 = .ok (.iconst 0, 1) := by decide +kernel
theorem dX7_swellsBy_92 : decode cX7_swellsBy 92 = .ok (.iadd, 1) := by decide +kernel
theorem dX7_swellsBy_93 : decode cX7_swellsBy 93 = .ok (.ireturn, 1) := by decide +kernel
theorem dX7_swellsBy_94 : decode cX7_swellsBy 94 = .ok (.iload 5, 2) := by decide +kernel
theorem dX7_swellsBy_96 : decode cX7_swellsBy 96 = .ok (.ireturn, 1) := by decide +kernel
theorem dX7_swellsBy_97 : decode cX7_swellsBy 97 = .ok (.iload 5, 2) := by decide +kernel
theorem dX7_swellsBy_99 : decode cX7_swellsBy 99 = .ok (.iconst 2, 1) := by decide +kernel
theorem dX7_swellsBy_100 : decode cX7_swellsBy 100 = .ok (.idiv, 1) := by decide +kernel
theorem dX7_swellsBy_101 : decode cX7_swellsBy 101 = .ok (.ireturn, 1) := by decide +kernel
theorem dX7_swellsBy_102 : decode cX7_swellsBy 102 = .ok (.iload_n 3, 1) := by decide +kernel
theorem dX7_swellsBy_103 : decode cX7_swellsBy 103 = .ok (.aload_n 0, 1) := by decide +kernel
theorem dX7_swellsBy_104 : decode cX7_swellsBy 104 = .ok (.iload_n 1, 1) := by decide +kernel
theorem dX7_swellsBy_105 : decode cX7_swellsBy 105 = .ok (.iconst 3, 1) := by decide +kernel
theorem dX7_swellsBy_106 : decode cX7_swellsBy 106 = .ok (.invokevirtual 54, 3) := by decide +kernel
theorem dX7_swellsBy_109 : decode cX7_swellsBy 109 = .ok (.iload_n 2, 1) := by decide +kernel
theorem dX7_swellsBy_110 : decode cX7_swellsBy 110 = .ok (.ishr, 1) := by decide +kernel
theorem dX7_swellsBy_111 : decode cX7_swellsBy 111 = .ok (.iconst 1, 1) := by decide +kernel
theorem dX7_swellsBy_112 : decode cX7_swellsBy 112 = .ok (.iand, 1) := by decide +kernel
theorem dX7_swellsBy_113 : decode cX7_swellsBy 113 = .ok (.iconst 1, 1) := by decide +kernel
theorem dX7_swellsBy_114 : decode cX7_swellsBy 114 = .ok (.if_icmp .ne 8, 3) := by decide +kernel
theorem dX7_swellsBy_117 : decode cX7_swellsBy 117 = .ok (.bipush 10, 2) := by decide +kernel
theorem dX7_swellsBy_119 : decode cX7_swellsBy 119 = .ok (.goto 4, 3) := by decide +kernel
theorem dX7_swellsBy_122 : decode cX7_swellsBy 122 = .ok (.iconst 0, 1) := by decide +kernel
theorem dX7_swellsBy_123 : decode cX7_swellsBy 123 = .ok (.iadd, 1) := by decide +kernel
theorem dX7_swellsBy_124 : decode cX7_swellsBy 124 = .ok (.ireturn, 1) := by decide +kernel
theorem dX7_swellsBy_125 : decode cX7_swellsBy 125 = .ok (.iload_n 3, 1) := by decide +kernel
theorem dX7_swellsBy_126 : decode cX7_swellsBy 126 = .ok (.ireturn, 1) := by decide +kernel
theorem dX7_digests_0 : decode cX7_digests 0 = .ok (.aload_n 0, 1) := by decide +kernel
theorem dX7_digests_1 : decode cX7_digests 1 = .ok (.iload_n 1, 1) := by decide +kernel
theorem dX7_digests_2 : decode cX7_digests 2 = .ok (.iconst 0, 1) := by decide +kernel
theorem dX7_digests_3 : decode cX7_digests 3 = .ok (.invokevirtual 54, 3) := by decide +kernel
theorem dX7_digests_6 : decode cX7_digests 6 = .ok (.tableswitch 84 1 6 #[38, 58, 47, 56, 64, 61], 38) := by decide +kernel
theorem dX7_digests_44 : decode cX7_digests 44 = .ok (.iconst 5, 1) := by decide +kernel
theorem dX7_digests_45 : decode cX7_digests 45 = .ok (.aload_n 0, 1) := by decide +kernel
theorem dX7_digests_46 : decode cX7_digests 46 = .ok (.getfield 7, 3) := by decide +kernel
theorem dX7_digests_49 : decode cX7_digests 49 = .ok (.iconst 3, 1) := by decide +kernel
theorem dX7_digests_50 : decode cX7_digests 50 = .ok (.iaload, 1) := by decide +kernel
theorem dX7_digests_51 : decode cX7_digests 51 = .ok (.iadd, 1) := by decide +kernel
theorem dX7_digests_52 : decode cX7_digests 52 = .ok (.ireturn, 1) := by decide +kernel
theorem dX7_digests_53 : decode cX7_digests 53 = .ok (.iconst 2, 1) := by decide +kernel
theorem dX7_digests_54 : decode cX7_digests 54 = .ok (.aload_n 0, 1) := by decide +kernel
theorem dX7_digests_55 : decode cX7_digests 55 = .ok (.getfield 7, 3) := by decide +kernel
theorem dX7_digests_58 : decode cX7_digests 58 = .ok (.iconst 3, 1) := by decide +kernel
theorem dX7_digests_59 : decode cX7_digests 59 = .ok (.iaload, 1) := by decide +kernel
theorem dX7_digests_60 : decode cX7_digests 60 = .ok (.iadd, 1) := by decide +kernel
theorem dX7_digests_61 : decode cX7_digests 61 = .ok (.ireturn, 1) := by decide +kernel
theorem dX7_digests_62 : decode cX7_digests 62 = .ok (.iconst 1, 1) := by decide +kernel
theorem dX7_digests_63 : decode cX7_digests 63 = .ok (.ireturn, 1) := by decide +kernel
theorem dX7_digests_64 : decode cX7_digests 64 = .ok (.bipush 8, 2) := by decide +kernel
theorem dX7_digests_66 : decode cX7_digests 66 = .ok (.ireturn, 1) := by decide +kernel
theorem dX7_digests_67 : decode cX7_digests 67 = .ok (.bipush 16, 2) := by decide +kernel
theorem dX7_digests_69 : decode cX7_digests 69 = .ok (.ireturn, 1) := by decide +kernel
theorem dX7_digests_70 : decode cX7_digests 70 = .ok (.aload_n 0, 1) := by decide +kernel
theorem dX7_digests_71 : decode cX7_digests 71 = .ok (.getfield 7, 3) := by decide +kernel
theorem dX7_digests_74 : decode cX7_digests 74 = .ok (.iconst 1, 1) := by decide +kernel
theorem dX7_digests_75 : decode cX7_digests 75 = .ok (.iaload, 1) := by decide +kernel
theorem dX7_digests_76 : decode cX7_digests 76 = .ok (.bipush 7, 2) := by decide +kernel
theorem dX7_digests_78 : decode cX7_digests 78 = .ok (.irem, 1) := by decide +kernel
theorem dX7_digests_79 : decode cX7_digests 79 = .ok (.bipush 6, 2) := by decide +kernel
theorem dX7_digests_81 : decode cX7_digests 81 = .ok (.if_icmp .ne 7, 3) := by decide +kernel
theorem dX7_digests_84 : decode cX7_digests 84 = .ok (.iconst 0, 1) := by decide +kernel
theorem dX7_digests_85 : decode cX7_digests 85 = .ok (.goto 4, 3) := by decide +kernel
theorem dX7_digests_88 : decode cX7_digests 88 = .ok (.iconst 5, 1) := by decide +kernel
theorem dX7_digests_89 : decode cX7_digests 89 = .ok (.ireturn, 1) := by decide +kernel
theorem dX7_digests_90 : decode cX7_digests 90 = .ok (.iconst 5, 1) := by decide +kernel
theorem dX7_digests_91 : decode cX7_digests 91 = .ok (.ireturn, 1) := by decide +kernel
theorem dX7_keeps_0 : decode cX7_keeps 0 = .ok (.aload_n 0, 1) := by decide +kernel
theorem dX7_keeps_1 : decode cX7_keeps 1 = .ok (.iload_n 1, 1) := by decide +kernel
theorem dX7_keeps_2 : decode cX7_keeps 2 = .ok (.iconst 0, 1) := by decide +kernel
theorem dX7_keeps_3 : decode cX7_keeps 3 = .ok (.invokevirtual 54, 3) := by decide +kernel
theorem dX7_keeps_6 : decode cX7_keeps 6 = .ok (.istore_n 2, 1) := by decide +kernel
theorem dX7_keeps_7 : decode cX7_keeps 7 = .ok (.iload_n 2, 1) := by decide +kernel
theorem dX7_keeps_8 : decode cX7_keeps 8 = .ok (.iconst 4, 1) := by decide +kernel
theorem dX7_keeps_9 : decode cX7_keeps 9 = .ok (.if_icmp .eq 21, 3) := by decide +kernel
theorem dX7_keeps_12 : decode cX7_keeps 12 = .ok (.iload_n 2, 1) := by decide +kernel
theorem dX7_keeps_13 : decode cX7_keeps 13 = .ok (.iconst 5, 1) := by decide +kernel
theorem dX7_keeps_14 : decode cX7_keeps 14 = .ok (.if_icmp .ne 20, 3) := by decide +kernel
theorem dX7_keeps_17 : decode cX7_keeps 17 = .ok (.aload_n 0, 1) := by decide +kernel
theorem dX7_keeps_18 : decode cX7_keeps 18 = .ok (.iload_n 1, 1) := by decide +kernel
theorem dX7_keeps_19 : decode cX7_keeps 19 = .ok (.iconst 3, 1) := by decide +kernel
theorem dX7_keeps_20 : decode cX7_keeps 20 = .ok (.invokevirtual 54, 3) := by decide +kernel
theorem dX7_keeps_23 : decode cX7_keeps 23 = .ok (.invokestatic 58, 3) := by decide +kernel
theorem dX7_keeps_26 : decode cX7_keeps 26 = .ok (.iconst 4, 1) := by decide +kernel
theorem dX7_keeps_27 : decode cX7_keeps 27 = .ok (.if_icmp .ge 7, 3) := by decide +kernel
theorem dX7_keeps_30 : decode cX7_keeps 30 = .ok (.iconst 1, 1) := by decide +kernel
theorem dX7_keeps_31 : decode cX7_keeps 31 = .ok (.goto 4, 3) := by decide +kernel
theorem dX7_keeps_34 : decode cX7_keeps 34 = .ok (.iconst 0, 1) := by decide +kernel
theorem dX7_keeps_35 : decode cX7_keeps 35 = .ok (.ireturn, 1) := by decide +kernel
theorem dX7_roomiest_0 : decode cX7_roomiest 0 = .ok (.iconst (-1), 1) := by decide +kernel
theorem dX7_roomiest_1 : decode cX7_roomiest 1 = .ok (.istore_n 3, 1) := by decide +kernel
theorem dX7_roomiest_2 : decode cX7_roomiest 2 = .ok (.iconst 0, 1) := by decide +kernel
theorem dX7_roomiest_3 : decode cX7_roomiest 3 = .ok (.istore 4, 2) := by decide +kernel
theorem dX7_roomiest_5 : decode cX7_roomiest 5 = .ok (.iload 4, 2) := by decide +kernel
theorem dX7_roomiest_7 : decode cX7_roomiest 7 = .ok (.aload_n 0, 1) := by decide +kernel
theorem dX7_roomiest_8 : decode cX7_roomiest 8 = .ok (.getfield 7, 3) := by decide +kernel
theorem dX7_roomiest_11 : decode cX7_roomiest 11 = .ok (.iconst 0, 1) := by decide +kernel
theorem dX7_roomiest_12 : decode cX7_roomiest 12 = .ok (.iaload, 1) := by decide +kernel
theorem dX7_roomiest_13 : decode cX7_roomiest 13 = .ok (.if_icmp .ge 59, 3) := by decide +kernel
theorem dX7_roomiest_16 : decode cX7_roomiest 16 = .ok (.iload 4, 2) := by decide +kernel
theorem dX7_roomiest_18 : decode cX7_roomiest 18 = .ok (.iload_n 2, 1) := by decide +kernel
theorem dX7_roomiest_19 : decode cX7_roomiest 19 = .ok (.if_icmp .eq 47, 3) := by decide +kernel
theorem dX7_roomiest_22 : decode cX7_roomiest 22 = .ok (.iload_n 1, 1) := by decide +kernel
theorem dX7_roomiest_23 : decode cX7_roomiest 23 = .ok (.ifCond .lt 18, 3) := by decide +kernel
theorem dX7_roomiest_26 : decode cX7_roomiest 26 = .ok (.aload_n 0, 1) := by decide +kernel
theorem dX7_roomiest_27 : decode cX7_roomiest 27 = .ok (.iload 4, 2) := by decide +kernel
theorem dX7_roomiest_29 : decode cX7_roomiest 29 = .ok (.iconst 2, 1) := by decide +kernel
theorem dX7_roomiest_30 : decode cX7_roomiest 30 = .ok (.invokevirtual 54, 3) := by decide +kernel
theorem dX7_roomiest_33 : decode cX7_roomiest 33 = .ok (.iload_n 1, 1) := by decide +kernel
theorem dX7_roomiest_34 : decode cX7_roomiest 34 = .ok (.ishr, 1) := by decide +kernel
theorem dX7_roomiest_35 : decode cX7_roomiest 35 = .ok (.iconst 1, 1) := by decide +kernel
theorem dX7_roomiest_36 : decode cX7_roomiest 36 = .ok (.iand, 1) := by decide +kernel
theorem dX7_roomiest_37 : decode cX7_roomiest 37 = .ok (.iconst 1, 1) := by decide +kernel
theorem dX7_roomiest_38 : decode cX7_roomiest 38 = .ok (.if_icmp .ne 28, 3) := by decide +kernel
theorem dX7_roomiest_41 : decode cX7_roomiest 41 = .ok (.iload_n 3, 1) := by decide +kernel
theorem dX7_roomiest_42 : decode cX7_roomiest 42 = .ok (.ifCond .lt 17, 3) := by decide +kernel
theorem dX7_roomiest_45 : decode cX7_roomiest 45 = .ok (.aload_n 0, 1) := by decide +kernel
theorem dX7_roomiest_46 : decode cX7_roomiest 46 = .ok (.iload 4, 2) := by decide +kernel
theorem dX7_roomiest_48 : decode cX7_roomiest 48 = .ok (.invokevirtual 69, 3) := by decide +kernel
theorem dX7_roomiest_51 : decode cX7_roomiest 51 = .ok (.aload_n 0, 1) := by decide +kernel
theorem dX7_roomiest_52 : decode cX7_roomiest 52 = .ok (.iload_n 3, 1) := by decide +kernel
theorem dX7_roomiest_53 : decode cX7_roomiest 53 = .ok (.invokevirtual 69, 3) := by decide +kernel
theorem dX7_roomiest_56 : decode cX7_roomiest 56 = .ok (.if_icmp .le 8, 3) := by decide +kernel
theorem dX7_roomiest_59 : decode cX7_roomiest 59 = .ok (.iload 4, 2) := by decide +kernel
theorem dX7_roomiest_61 : decode cX7_roomiest 61 = .ok (.goto 4, 3) := by decide +kernel
theorem dX7_roomiest_64 : decode cX7_roomiest 64 = .ok (.iload_n 3, 1) := by decide +kernel
theorem dX7_roomiest_65 : decode cX7_roomiest 65 = .ok (.istore_n 3, 1) := by decide +kernel
theorem dX7_roomiest_66 : decode cX7_roomiest 66 = .ok (.iinc 4 1, 3) := by decide +kernel
theorem dX7_roomiest_69 : decode cX7_roomiest 69 = .ok (.goto (-64), 3) := by decide +kernel
theorem dX7_roomiest_72 : decode cX7_roomiest 72 = .ok (.iload_n 3, 1) := by decide +kernel
theorem dX7_roomiest_73 : decode cX7_roomiest 73 = .ok (.ireturn, 1) := by decide +kernel
theorem dX7_todays_0 : decode cX7_todays 0 = .ok (.bipush 6, 2) := by decide +kernel
theorem dX7_todays_2 : decode cX7_todays 2 = .ok (.aload_n 0, 1) := by decide +kernel
theorem dX7_todays_3 : decode cX7_todays 3 = .ok (.getfield 7, 3) := by decide +kernel
theorem dX7_todays_6 : decode cX7_todays 6 = .ok (.iconst 1, 1) := by decide +kernel
theorem dX7_todays_7 : decode cX7_todays 7 = .ok (.iaload, 1) := by decide +kernel
theorem dX7_todays_8 : decode cX7_todays 8 = .ok (.bipush 6, 2) := by decide +kernel
theorem dX7_todays_10 : decode cX7_todays 10 = .ok (.irem, 1) := by decide +kernel
theorem dX7_todays_11 : decode cX7_todays 11 = .ok (.iadd, 1) := by decide +kernel
theorem dX7_todays_12 : decode cX7_todays 12 = .ok (.ireturn, 1) := by decide +kernel
theorem dX7_confesses_0 : decode cX7_confesses 0 = .ok (.iload_n 1, 1) := by decide +kernel
theorem dX7_confesses_1 : decode cX7_confesses 1 = .ok (.bipush 100, 2) := by decide +kernel
theorem dX7_confesses_3 : decode cX7_confesses 3 = .ok (.idiv, 1) := by decide +kernel
theorem dX7_confesses_4 : decode cX7_confesses 4 = .ok (.istore_n 2, 1) := by decide +kernel
theorem dX7_confesses_5 : decode cX7_confesses 5 = .ok (.iload_n 1, 1) := by decide +kernel
theorem dX7_confesses_6 : decode cX7_confesses 6 = .ok (.bipush 100, 2) := by decide +kernel
theorem dX7_confesses_8 : decode cX7_confesses 8 = .ok (.irem, 1) := by decide +kernel
theorem dX7_confesses_9 : decode cX7_confesses 9 = .ok (.istore_n 3, 1) := by decide +kernel
theorem dX7_confesses_10 : decode cX7_confesses 10 = .ok (.iload_n 3, 1) := by decide +kernel
theorem dX7_confesses_11 : decode cX7_confesses 11 = .ok (.ifCond .ne 4, 3) := by decide +kernel
theorem dX7_confesses_14 : decode cX7_confesses 14 = .ok (.return_, 1) := by decide +kernel
theorem dX7_confesses_15 : decode cX7_confesses 15 = .ok (.aload_n 0, 1) := by decide +kernel
theorem dX7_confesses_16 : decode cX7_confesses 16 = .ok (.iload_n 2, 1) := by decide +kernel
theorem dX7_confesses_17 : decode cX7_confesses 17 = .ok (.iconst (-1), 1) := by decide +kernel
theorem dX7_confesses_18 : decode cX7_confesses 18 = .ok (.invokevirtual 72, 3) := by decide +kernel
theorem dX7_confesses_21 : decode cX7_confesses 21 = .ok (.istore 4, 2) := by decide +kernel
theorem dX7_confesses_23 : decode cX7_confesses 23 = .ok (.iload 4, 2) := by decide +kernel
theorem dX7_confesses_25 : decode cX7_confesses 25 = .ok (.ifCond .ge 24, 3) := by decide +kernel
theorem dX7_confesses_28 : decode cX7_confesses 28 = .ok (.aload_n 0, 1) := by decide +kernel
theorem dX7_confesses_29 : decode cX7_confesses 29 = .ok (.getfield 7, 3) := by decide +kernel
theorem dX7_confesses_32 : decode cX7_confesses 32 = .ok (.iconst 5, 1) := by decide +kernel
theorem dX7_confesses_33 : decode cX7_confesses 33 = .ok (.aload_n 0, 1) := by decide +kernel
theorem dX7_confesses_34 : decode cX7_confesses 34 = .ok (.getfield 7, 3) := by decide +kernel
theorem dX7_confesses_37 : decode cX7_confesses 37 = .ok (.iconst 5, 1) := by decide +kernel
theorem dX7_confesses_38 : decode cX7_confesses 38 = .ok (.iaload, 1) := by decide +kernel
theorem dX7_confesses_39 : decode cX7_confesses 39 = .ok (.iconst 1, 1) := by decide +kernel
theorem dX7_confesses_40 : decode cX7_confesses 40 = .ok (.iadd, 1) := by decide +kernel
theorem dX7_confesses_41 : decode cX7_confesses 41 = .ok (.iconst 0, 1) := by decide +kernel
theorem dX7_confesses_42 : decode cX7_confesses 42 = .ok (.ldc 75, 2) := by decide +kernel
theorem dX7_confesses_44 : decode cX7_confesses 44 = .ok (.invokestatic 62, 3) := by decide +kernel
theorem dX7_confesses_47 : decode cX7_confesses 47 = .ok (.iastore, 1) := by decide +kernel
theorem dX7_confesses_48 : decode cX7_confesses 48 = .ok (.return_, 1) := by decide +kernel
theorem dX7_confesses_49 : decode cX7_confesses 49 = .ok (.aload_n 0, 1) := by decide +kernel
theorem dX7_confesses_50 : decode cX7_confesses 50 = .ok (.iload 4, 2) := by decide +kernel
theorem dX7_confesses_52 : decode cX7_confesses 52 = .ok (.iconst 1, 1) := by decide +kernel
theorem dX7_confesses_53 : decode cX7_confesses 53 = .ok (.aload_n 0, 1) := by decide +kernel
theorem dX7_confesses_54 : decode cX7_confesses 54 = .ok (.iload 4, 2) := by decide +kernel
theorem dX7_confesses_56 : decode cX7_confesses 56 = .ok (.iconst 1, 1) := by decide +kernel
theorem dX7_confesses_57 : decode cX7_confesses 57 = .ok (.invokevirtual 54, 3) := by decide +kernel
theorem dX7_confesses_60 : decode cX7_confesses 60 = .ok (.aload_n 0, 1) := by decide +kernel
theorem dX7_confesses_61 : decode cX7_confesses 61 = .ok (.iload 4, 2) := by decide +kernel
theorem dX7_confesses_63 : decode cX7_confesses 63 = .ok (.iload_n 2, 1) := by decide +kernel
theorem dX7_confesses_64 : decode cX7_confesses 64 = .ok (.iload_n 3, 1) := by decide +kernel
theorem dX7_confesses_65 : decode cX7_confesses 65 = .ok (.invokevirtual 76, 3) := by decide +kernel
theorem dX7_confesses_68 : decode cX7_confesses 68 = .ok (.iadd, 1) := by decide +kernel
theorem dX7_confesses_69 : decode cX7_confesses 69 = .ok (.iconst 0, 1) := by decide +kernel
theorem dX7_confesses_70 : decode cX7_confesses 70 = .ok (.sipush 999, 3) := by decide +kernel
theorem dX7_confesses_73 : decode cX7_confesses 73 = .ok (.invokestatic 62, 3) := by decide +kernel
theorem dX7_confesses_76 : decode cX7_confesses 76 = .ok (.invokevirtual 79, 3) := by decide +kernel
theorem dX7_confesses_79 : decode cX7_confesses 79 = .ok (.aload_n 0, 1) := by decide +kernel
theorem dX7_confesses_80 : decode cX7_confesses 80 = .ok (.iload 4, 2) := by decide +kernel
theorem dX7_confesses_82 : decode cX7_confesses 82 = .ok (.iconst 3, 1) := by decide +kernel
theorem dX7_confesses_83 : decode cX7_confesses 83 = .ok (.aload_n 0, 1) := by decide +kernel
theorem dX7_confesses_84 : decode cX7_confesses 84 = .ok (.iload 4, 2) := by decide +kernel
theorem dX7_confesses_86 : decode cX7_confesses 86 = .ok (.iconst 3, 1) := by decide +kernel
theorem dX7_confesses_87 : decode cX7_confesses 87 = .ok (.invokevirtual 54, 3) := by decide +kernel
theorem dX7_confesses_90 : decode cX7_confesses 90 = .ok (.iconst 1, 1) := by decide +kernel
theorem dX7_confesses_91 : decode cX7_confesses 91 = .ok (.iload_n 2, 1) := by decide +kernel
theorem dX7_confesses_92 : decode cX7_confesses 92 = .ok (.ishl, 1) := by decide +kernel
theorem dX7_confesses_93 : decode cX7_confesses 93 = .ok (.ior, 1) := by decide +kernel
theorem dX7_confesses_94 : decode cX7_confesses 94 = .ok (.invokevirtual 79, 3) := by decide +kernel
theorem dX7_confesses_97 : decode cX7_confesses 97 = .ok (.aload_n 0, 1) := by decide +kernel
theorem dX7_confesses_98 : decode cX7_confesses 98 = .ok (.iload 4, 2) := by decide +kernel
theorem dX7_confesses_100 : decode cX7_confesses 100 = .ok (.iconst 4, 1) := by decide +kernel
theorem dX7_confesses_101 : decode cX7_confesses 101 = .ok (.aload_n 0, 1) := by decide +kernel
theorem dX7_confesses_102 : decode cX7_confesses 102 = .ok (.iload 4, 2) := by decide +kernel
theorem dX7_confesses_104 : decode cX7_confesses 104 = .ok (.iconst 4, 1) := by decide +kernel
theorem dX7_confesses_105 : decode cX7_confesses 105 = .ok (.invokevirtual 54, 3) := by decide +kernel
theorem dX7_confesses_108 : decode cX7_confesses 108 = .ok (.iconst 1, 1) := by decide +kernel
theorem dX7_confesses_109 : decode cX7_confesses 109 = .ok (.iadd, 1) := by decide +kernel
theorem dX7_confesses_110 : decode cX7_confesses 110 = .ok (.iconst 0, 1) := by decide +kernel
theorem dX7_confesses_111 : decode cX7_confesses 111 = .ok (.sipush 9999, 3) := by decide +kernel
theorem dX7_confesses_114 : decode cX7_confesses 114 = .ok (.invokestatic 62, 3) := by decide +kernel
theorem dX7_confesses_117 : decode cX7_confesses 117 = .ok (.invokevirtual 79, 3) := by decide +kernel
theorem dX7_confesses_120 : decode cX7_confesses 120 = .ok (.return_, 1) := by decide +kernel
theorem dX7_dayGoes_0 : decode cX7_dayGoes 0 = .ok (.aload_n 0, 1) := by decide +kernel
theorem dX7_dayGoes_1 : decode cX7_dayGoes 1 = .ok (.aload_n 0, 1) := by decide +kernel
theorem dX7_dayGoes_2 : decode cX7_dayGoes 2 = .ok (.getfield 7, 3) := by decide +kernel
theorem dX7_dayGoes_5 : decode cX7_dayGoes 5 = .ok (.aload_n 0, 1) := by decide +kernel
theorem dX7_dayGoes_6 : decode cX7_dayGoes 6 = .ok (.invokevirtual 83, 3) := by decide +kernel
theorem dX7_dayGoes_9 : decode cX7_dayGoes 9 = .ok (.iaload, 1) := by decide +kernel
theorem dX7_dayGoes_10 : decode cX7_dayGoes 10 = .ok (.invokevirtual 87, 3) := by decide +kernel
theorem dX7_dayGoes_13 : decode cX7_dayGoes 13 = .ok (.iconst 0, 1) := by decide +kernel
theorem dX7_dayGoes_14 : decode cX7_dayGoes 14 = .ok (.istore_n 1, 1) := by decide +kernel
theorem dX7_dayGoes_15 : decode cX7_dayGoes 15 = .ok (.iload_n 1, 1) := by decide +kernel
theorem dX7_dayGoes_16 : decode cX7_dayGoes 16 = .ok (.aload_n 0, 1) := by decide +kernel
theorem dX7_dayGoes_17 : decode cX7_dayGoes 17 = .ok (.getfield 7, 3) := by decide +kernel
theorem dX7_dayGoes_20 : decode cX7_dayGoes 20 = .ok (.iconst 0, 1) := by decide +kernel
theorem dX7_dayGoes_21 : decode cX7_dayGoes 21 = .ok (.iaload, 1) := by decide +kernel
theorem dX7_dayGoes_22 : decode cX7_dayGoes 22 = .ok (.if_icmp .ge 79, 3) := by decide +kernel
theorem dX7_dayGoes_25 : decode cX7_dayGoes 25 = .ok (.aload_n 0, 1) := by decide +kernel
theorem dX7_dayGoes_26 : decode cX7_dayGoes 26 = .ok (.iload_n 1, 1) := by decide +kernel
theorem dX7_dayGoes_27 : decode cX7_dayGoes 27 = .ok (.invokevirtual 69, 3) := by decide +kernel
theorem dX7_dayGoes_30 : decode cX7_dayGoes 30 = .ok (.ifCond .ge 65, 3) := by decide +kernel
theorem dX7_dayGoes_33 : decode cX7_dayGoes 33 = .ok (.aload_n 0, 1) := by decide +kernel
theorem dX7_dayGoes_34 : decode cX7_dayGoes 34 = .ok (.getfield 7, 3) := by decide +kernel
theorem dX7_dayGoes_37 : decode cX7_dayGoes 37 = .ok (.iconst 4, 1) := by decide +kernel
theorem dX7_dayGoes_38 : decode cX7_dayGoes 38 = .ok (.dup2, 1) := by decide +kernel
theorem dX7_dayGoes_39 : decode cX7_dayGoes 39 = .ok (.iaload, 1) := by decide +kernel
theorem dX7_dayGoes_40 : decode cX7_dayGoes 40 = .ok (.aload_n 0, 1) := by decide +kernel
theorem dX7_dayGoes_41 : decode cX7_dayGoes 41 = .ok (.iload_n 1, 1) := by decide +kernel
theorem dX7_dayGoes_42 : decode cX7_dayGoes 42 = .ok (.invokevirtual 91, 3) := by decide +kernel
theorem dX7_dayGoes_45 : decode cX7_dayGoes 45 = .ok (.ifCond .eq 7, 3) := by decide +kernel
theorem dX7_dayGoes_48 : decode cX7_dayGoes 48 = .ok (.iconst 0, 1) := by decide +kernel
theorem dX7_dayGoes_49 : decode cX7_dayGoes 49 = .ok (.goto 9, 3) := by decide +kernel
theorem dX7_dayGoes_52 : decode cX7_dayGoes 52 = .ok (.aload_n 0, 1) := by decide +kernel
theorem dX7_dayGoes_53 : decode cX7_dayGoes 53 = .ok (.iload_n 1, 1) := by decide +kernel
theorem dX7_dayGoes_54 : decode cX7_dayGoes 54 = .ok (.iconst 3, 1) := by decide +kernel
theorem dX7_dayGoes_55 : decode cX7_dayGoes 55 = .ok (.invokevirtual 54, 3) := by decide +kernel
theorem dX7_dayGoes_58 : decode cX7_dayGoes 58 = .ok (.ior, 1) := by decide +kernel
theorem dX7_dayGoes_59 : decode cX7_dayGoes 59 = .ok (.iastore, 1) := by decide +kernel
theorem dX7_dayGoes_60 : decode cX7_dayGoes 60 = .ok (.aload_n 0, 1) := by decide +kernel
theorem dX7_dayGoes_61 : decode cX7_dayGoes 61 = .ok (.iload_n 1, 1) := by decide +kernel
theorem dX7_dayGoes_62 : decode cX7_dayGoes 62 = .ok (.iconst 3, 1) := by decide +kernel
theorem dX7_dayGoes_63 : decode cX7_dayGoes 63 = .ok (.iconst 0, 1) := by decide +kernel
theorem dX7_dayGoes_64 : decode cX7_dayGoes 64 = .ok (.invokevirtual 79, 3) := by decide +kernel
theorem dX7_dayGoes_67 : decode cX7_dayGoes 67 = .ok (.aload_n 0, 1) := by decide +kernel
theorem dX7_dayGoes_68 : decode cX7_dayGoes 68 = .ok (.iload_n 1, 1) := by decide +kernel
theorem dX7_dayGoes_69 : decode cX7_dayGoes 69 = .ok (.iconst 1, 1) := by decide +kernel
theorem dX7_dayGoes_70 : decode cX7_dayGoes 70 = .ok (.iconst 0, 1) := by decide +kernel
theorem dX7_dayGoes_71 : decode cX7_dayGoes 71 = .ok (.invokevirtual 79, 3) := by decide +kernel
theorem dX7_dayGoes_74 : decode cX7_dayGoes 74 = .ok (.aload_n 0, 1) := by decide +kernel
theorem dX7_dayGoes_75 : decode cX7_dayGoes 75 = .ok (.iload_n 1, 1) := by decide +kernel
theorem dX7_dayGoes_76 : decode cX7_dayGoes 76 = .ok (.iconst 5, 1) := by decide +kernel
theorem dX7_dayGoes_77 : decode cX7_dayGoes 77 = .ok (.aload_n 0, 1) := by decide +kernel
theorem dX7_dayGoes_78 : decode cX7_dayGoes 78 = .ok (.iload_n 1, 1) := by decide +kernel
theorem dX7_dayGoes_79 : decode cX7_dayGoes 79 = .ok (.iconst 5, 1) := by decide +kernel
theorem dX7_dayGoes_80 : decode cX7_dayGoes 80 = .ok (.invokevirtual 54, 3) := by decide +kernel
theorem dX7_dayGoes_83 : decode cX7_dayGoes 83 = .ok (.iconst 1, 1) := by decide +kernel
theorem dX7_dayGoes_84 : decode cX7_dayGoes 84 = .ok (.iadd, 1) := by decide +kernel
theorem dX7_dayGoes_85 : decode cX7_dayGoes 85 = .ok (.iconst 0, 1) := by decide +kernel
theorem dX7_dayGoes_86 : decode cX7_dayGoes 86 = .ok (.sipush 9999, 3) := by decide +kernel
theorem dX7_dayGoes_89 : decode cX7_dayGoes 89 = .ok (.invokestatic 62, 3) := by decide +kernel
theorem dX7_dayGoes_92 : decode cX7_dayGoes 92 = .ok (.invokevirtual 79, 3) := by decide +kernel
theorem dX7_dayGoes_95 : decode cX7_dayGoes 95 = .ok (.iinc 1 1, 3) := by decide +kernel
theorem dX7_dayGoes_98 : decode cX7_dayGoes 98 = .ok (.goto (-83), 3) := by decide +kernel
theorem dX7_dayGoes_101 : decode cX7_dayGoes 101 = .ok (.iconst 0, 1) := by decide +kernel
theorem dX7_dayGoes_102 : decode cX7_dayGoes 102 = .ok (.istore_n 1, 1) := by decide +kernel
theorem dX7_dayGoes_103 : decode cX7_dayGoes 103 = .ok (.iload_n 1, 1) := by decide +kernel
theorem dX7_dayGoes_104 : decode cX7_dayGoes 104 = .ok (.aload_n 0, 1) := by decide +kernel
theorem dX7_dayGoes_105 : decode cX7_dayGoes 105 = .ok (.getfield 7, 3) := by decide +kernel
theorem dX7_dayGoes_108 : decode cX7_dayGoes 108 = .ok (.iconst 0, 1) := by decide +kernel
theorem dX7_dayGoes_109 : decode cX7_dayGoes 109 = .ok (.iaload, 1) := by decide +kernel
theorem dX7_dayGoes_110 : decode cX7_dayGoes 110 = .ok (.if_icmp .ge 34, 3) := by decide +kernel
theorem dX7_dayGoes_113 : decode cX7_dayGoes 113 = .ok (.aload_n 0, 1) := by decide +kernel
theorem dX7_dayGoes_114 : decode cX7_dayGoes 114 = .ok (.iload_n 1, 1) := by decide +kernel
theorem dX7_dayGoes_115 : decode cX7_dayGoes 115 = .ok (.iconst 1, 1) := by decide +kernel
theorem dX7_dayGoes_116 : decode cX7_dayGoes 116 = .ok (.aload_n 0, 1) := by decide +kernel
theorem dX7_dayGoes_117 : decode cX7_dayGoes 117 = .ok (.iload_n 1, 1) := by decide +kernel
theorem dX7_dayGoes_118 : decode cX7_dayGoes 118 = .ok (.iconst 1, 1) := by decide +kernel
theorem dX7_dayGoes_119 : decode cX7_dayGoes 119 = .ok (.invokevirtual 54, 3) := by decide +kernel
theorem dX7_dayGoes_122 : decode cX7_dayGoes 122 = .ok (.aload_n 0, 1) := by decide +kernel
theorem dX7_dayGoes_123 : decode cX7_dayGoes 123 = .ok (.iload_n 1, 1) := by decide +kernel
theorem dX7_dayGoes_124 : decode cX7_dayGoes 124 = .ok (.invokevirtual 95, 3) := by decide +kernel
theorem dX7_dayGoes_127 : decode cX7_dayGoes 127 = .ok (.isub, 1) := by decide +kernel
theorem dX7_dayGoes_128 : decode cX7_dayGoes 128 = .ok (.iconst 0, 1) := by decide +kernel
theorem dX7_dayGoes_129 : decode cX7_dayGoes 129 = .ok (.sipush 999, 3) := by decide +kernel
theorem dX7_dayGoes_132 : decode cX7_dayGoes 132 = .ok (.invokestatic 62, 3) := by decide +kernel
theorem dX7_dayGoes_135 : decode cX7_dayGoes 135 = .ok (.invokevirtual 79, 3) := by decide +kernel
theorem dX7_dayGoes_138 : decode cX7_dayGoes 138 = .ok (.iinc 1 1, 3) := by decide +kernel
theorem dX7_dayGoes_141 : decode cX7_dayGoes 141 = .ok (.goto (-38), 3) := by decide +kernel
theorem dX7_dayGoes_144 : decode cX7_dayGoes 144 = .ok (.aload_n 0, 1) := by decide +kernel
theorem dX7_dayGoes_145 : decode cX7_dayGoes 145 = .ok (.getfield 7, 3) := by decide +kernel
theorem dX7_dayGoes_148 : decode cX7_dayGoes 148 = .ok (.iconst 1, 1) := by decide +kernel
theorem dX7_dayGoes_149 : decode cX7_dayGoes 149 = .ok (.aload_n 0, 1) := by decide +kernel
theorem dX7_dayGoes_150 : decode cX7_dayGoes 150 = .ok (.getfield 7, 3) := by decide +kernel
theorem dX7_dayGoes_153 : decode cX7_dayGoes 153 = .ok (.iconst 1, 1) := by decide +kernel
theorem dX7_dayGoes_154 : decode cX7_dayGoes 154 = .ok (.iaload, 1) := by decide +kernel
theorem dX7_dayGoes_155 : decode cX7_dayGoes 155 = .ok (.iconst 1, 1) := by decide +kernel
theorem dX7_dayGoes_156 : decode cX7_dayGoes 156 = .ok (.iadd, 1) := by decide +kernel
theorem dX7_dayGoes_157 : decode cX7_dayGoes 157 = .ok (.iconst 0, 1) := by decide +kernel
theorem dX7_dayGoes_158 : decode cX7_dayGoes 158 = .ok (.ldc 75, 2) := by decide +kernel
theorem dX7_dayGoes_160 : decode cX7_dayGoes 160 = .ok (.invokestatic 62, 3) := by decide +kernel
theorem dX7_dayGoes_163 : decode cX7_dayGoes 163 = .ok (.iastore, 1) := by decide +kernel
theorem dX7_dayGoes_164 : decode cX7_dayGoes 164 = .ok (.return_, 1) := by decide +kernel
theorem dX7_daysGo_0 : decode cX7_daysGo 0 = .ok (.iconst 0, 1) := by decide +kernel
theorem dX7_daysGo_1 : decode cX7_daysGo 1 = .ok (.istore_n 2, 1) := by decide +kernel
theorem dX7_daysGo_2 : decode cX7_daysGo 2 = .ok (.iload_n 2, 1) := by decide +kernel
theorem dX7_daysGo_3 : decode cX7_daysGo 3 = .ok (.iload_n 1, 1) := by decide +kernel
theorem dX7_daysGo_4 : decode cX7_daysGo 4 = .ok (.if_icmp .ge 13, 3) := by decide +kernel
theorem dX7_daysGo_7 : decode cX7_daysGo 7 = .ok (.aload_n 0, 1) := by decide +kernel
theorem dX7_daysGo_8 : decode cX7_daysGo 8 = .ok (.invokevirtual 98, 3) := by decide +kernel
theorem dX7_daysGo_11 : decode cX7_daysGo 11 = .ok (.iinc 2 1, 3) := by decide +kernel
theorem dX7_daysGo_14 : decode cX7_daysGo 14 = .ok (.goto (-12), 3) := by decide +kernel
theorem dX7_daysGo_17 : decode cX7_daysGo 17 = .ok (.return_, 1) := by decide +kernel
theorem dX7_sumOf_0 : decode cX7_sumOf 0 = .ok (.iconst 0, 1) := by decide +kernel
theorem dX7_sumOf_1 : decode cX7_sumOf 1 = .ok (.istore_n 2, 1) := by decide +kernel
theorem dX7_sumOf_2 : decode cX7_sumOf 2 = .ok (.iconst 0, 1) := by decide +kernel
theorem dX7_sumOf_3 : decode cX7_sumOf 3 = .ok (.istore_n 3, 1) := by decide +kernel
theorem dX7_sumOf_4 : decode cX7_sumOf 4 = .ok (.iload_n 3, 1) := by decide +kernel
theorem dX7_sumOf_5 : decode cX7_sumOf 5 = .ok (.aload_n 0, 1) := by decide +kernel
theorem dX7_sumOf_6 : decode cX7_sumOf 6 = .ok (.getfield 7, 3) := by decide +kernel
theorem dX7_sumOf_9 : decode cX7_sumOf 9 = .ok (.iconst 0, 1) := by decide +kernel
theorem dX7_sumOf_10 : decode cX7_sumOf 10 = .ok (.iaload, 1) := by decide +kernel
theorem dX7_sumOf_11 : decode cX7_sumOf 11 = .ok (.if_icmp .ge 18, 3) := by decide +kernel
theorem dX7_sumOf_14 : decode cX7_sumOf 14 = .ok (.iload_n 2, 1) := by decide +kernel
theorem dX7_sumOf_15 : decode cX7_sumOf 15 = .ok (.aload_n 0, 1) := by decide +kernel
theorem dX7_sumOf_16 : decode cX7_sumOf 16 = .ok (.iload_n 3, 1) := by decide +kernel
theorem dX7_sumOf_17 : decode cX7_sumOf 17 = .ok (.iload_n 1, 1) := by decide +kernel
theorem dX7_sumOf_18 : decode cX7_sumOf 18 = .ok (.invokevirtual 54, 3) := by decide +kernel
theorem dX7_sumOf_21 : decode cX7_sumOf 21 = .ok (.iadd, 1) := by decide +kernel
theorem dX7_sumOf_22 : decode cX7_sumOf 22 = .ok (.istore_n 2, 1) := by decide +kernel
theorem dX7_sumOf_23 : decode cX7_sumOf 23 = .ok (.iinc 3 1, 3) := by decide +kernel
theorem dX7_sumOf_26 : decode cX7_sumOf 26 = .ok (.goto (-22), 3) := by decide +kernel
theorem dX7_sumOf_29 : decode cX7_sumOf 29 = .ok (.iload_n 2, 1) := by decide +kernel
theorem dX7_sumOf_30 : decode cX7_sumOf 30 = .ok (.ireturn, 1) := by decide +kernel
theorem dX7_together_0 : decode cX7_together 0 = .ok (.iconst 0, 1) := by decide +kernel
theorem dX7_together_1 : decode cX7_together 1 = .ok (.istore_n 2, 1) := by decide +kernel
theorem dX7_together_2 : decode cX7_together 2 = .ok (.iconst 0, 1) := by decide +kernel
theorem dX7_together_3 : decode cX7_together 3 = .ok (.istore_n 3, 1) := by decide +kernel
theorem dX7_together_4 : decode cX7_together 4 = .ok (.iload_n 3, 1) := by decide +kernel
theorem dX7_together_5 : decode cX7_together 5 = .ok (.aload_n 0, 1) := by decide +kernel
theorem dX7_together_6 : decode cX7_together 6 = .ok (.getfield 7, 3) := by decide +kernel
theorem dX7_together_9 : decode cX7_together 9 = .ok (.iconst 0, 1) := by decide +kernel
theorem dX7_together_10 : decode cX7_together 10 = .ok (.iaload, 1) := by decide +kernel
theorem dX7_together_11 : decode cX7_together 11 = .ok (.if_icmp .ge 18, 3) := by decide +kernel
theorem dX7_together_14 : decode cX7_together 14 = .ok (.iload_n 2, 1) := by decide +kernel
theorem dX7_together_15 : decode cX7_together 15 = .ok (.aload_n 0, 1) := by decide +kernel
theorem dX7_together_16 : decode cX7_together 16 = .ok (.iload_n 3, 1) := by decide +kernel
theorem dX7_together_17 : decode cX7_together 17 = .ok (.iload_n 1, 1) := by decide +kernel
theorem dX7_together_18 : decode cX7_together 18 = .ok (.invokevirtual 54, 3) := by decide +kernel
theorem dX7_together_21 : decode cX7_together 21 = .ok (.ior, 1) := by decide +kernel
theorem dX7_together_22 : decode cX7_together 22 = .ok (.istore_n 2, 1) := by decide +kernel
theorem dX7_together_23 : decode cX7_together 23 = .ok (.iinc 3 1, 3) := by decide +kernel
theorem dX7_together_26 : decode cX7_together 26 = .ok (.goto (-22), 3) := by decide +kernel
theorem dX7_together_29 : decode cX7_together 29 = .ok (.iload_n 2, 1) := by decide +kernel
theorem dX7_together_30 : decode cX7_together 30 = .ok (.ireturn, 1) := by decide +kernel
theorem dX7_set_0 : decode cX7_set 0 = .ok (.iload_n 1, 1) := by decide +kernel
theorem dX7_set_1 : decode cX7_set 1 = .ok (.ifCond .ne 15, 3) := by decide +kernel
theorem dX7_set_4 : decode cX7_set 4 = .ok (.iload_n 2, 1) := by decide +kernel
theorem dX7_set_5 : decode cX7_set 5 = .ok (.i2l, 1) := by decide +kernel
theorem dX7_set_6 : decode cX7_set 6 = .ok (.lconst 0, 1) := by decide +kernel
theorem dX7_set_7 : decode cX7_set 7 = .ok (.ldc2_w 101, 3) := by decide +kernel
theorem dX7_set_10 : decode cX7_set 10 = .ok (.invokestatic 42, 3) := by decide +kernel
theorem dX7_set_13 : decode cX7_set 13 = .ok (.ifCond .ne 15, 3) := by decide +kernel
theorem dX7_set_16 : decode cX7_set 16 = .ok (.iload_n 1, 1) := by decide +kernel
theorem dX7_set_17 : decode cX7_set 17 = .ok (.iconst 1, 1) := by decide +kernel
theorem dX7_set_18 : decode cX7_set 18 = .ok (.if_icmp .ne 21, 3) := by decide +kernel
theorem dX7_set_21 : decode cX7_set 21 = .ok (.iload_n 2, 1) := by decide +kernel
theorem dX7_set_22 : decode cX7_set 22 = .ok (.invokestatic 103, 3) := by decide +kernel
theorem dX7_set_25 : decode cX7_set 25 = .ok (.ifCond .eq 14, 3) := by decide +kernel
theorem dX7_set_28 : decode cX7_set 28 = .ok (.aload_n 0, 1) := by decide +kernel
theorem dX7_set_29 : decode cX7_set 29 = .ok (.iconst 3, 1) := by decide +kernel
theorem dX7_set_30 : decode cX7_set 30 = .ok (.iload_n 1, 1) := by decide +kernel
theorem dX7_set_31 : decode cX7_set 31 = .ok (.iadd, 1) := by decide +kernel
theorem dX7_set_32 : decode cX7_set 32 = .ok (.iload_n 2, 1) := by decide +kernel
theorem dX7_set_33 : decode cX7_set 33 = .ok (.invokevirtual 106, 3) := by decide +kernel
theorem dX7_set_36 : decode cX7_set 36 = .ok (.goto 8, 3) := by decide +kernel
theorem dX7_set_39 : decode cX7_set 39 = .ok (.aload_n 0, 1) := by decide +kernel
theorem dX7_set_40 : decode cX7_set 40 = .ok (.iconst 0, 1) := by decide +kernel
theorem dX7_set_41 : decode cX7_set 41 = .ok (.invokevirtual 109, 3) := by decide +kernel
theorem dX7_set_44 : decode cX7_set 44 = .ok (.ireturn, 1) := by decide +kernel
theorem dX7_list_0 : decode cX7_list 0 = .ok (.iload_n 1, 1) := by decide +kernel
theorem dX7_list_1 : decode cX7_list 1 = .ok (.invokestatic 112, 3) := by decide +kernel
theorem dX7_list_4 : decode cX7_list 4 = .ok (.ifCond .eq 22, 3) := by decide +kernel
theorem dX7_list_7 : decode cX7_list 7 = .ok (.iload_n 2, 1) := by decide +kernel
theorem dX7_list_8 : decode cX7_list 8 = .ok (.invokestatic 115, 3) := by decide +kernel
theorem dX7_list_11 : decode cX7_list 11 = .ok (.ifCond .eq 15, 3) := by decide +kernel
theorem dX7_list_14 : decode cX7_list 14 = .ok (.aload_n 0, 1) := by decide +kernel
theorem dX7_list_15 : decode cX7_list 15 = .ok (.bipush 6, 2) := by decide +kernel
theorem dX7_list_17 : decode cX7_list 17 = .ok (.iload_n 1, 1) := by decide +kernel
theorem dX7_list_18 : decode cX7_list 18 = .ok (.iadd, 1) := by decide +kernel
theorem dX7_list_19 : decode cX7_list 19 = .ok (.iload_n 2, 1) := by decide +kernel
theorem dX7_list_20 : decode cX7_list 20 = .ok (.invokevirtual 106, 3) := by decide +kernel
theorem dX7_list_23 : decode cX7_list 23 = .ok (.goto 8, 3) := by decide +kernel
theorem dX7_list_26 : decode cX7_list 26 = .ok (.aload_n 0, 1) := by decide +kernel
theorem dX7_list_27 : decode cX7_list 27 = .ok (.iconst 0, 1) := by decide +kernel
theorem dX7_list_28 : decode cX7_list 28 = .ok (.invokevirtual 109, 3) := by decide +kernel
theorem dX7_list_31 : decode cX7_list 31 = .ok (.ireturn, 1) := by decide +kernel
theorem dX7_listed_0 : decode cX7_listed 0 = .ok (.iload_n 1, 1) := by decide +kernel
theorem dX7_listed_1 : decode cX7_listed 1 = .ok (.invokestatic 112, 3) := by decide +kernel
theorem dX7_listed_4 : decode cX7_listed 4 = .ok (.ifCond .eq 15, 3) := by decide +kernel
theorem dX7_listed_7 : decode cX7_listed 7 = .ok (.aload_n 0, 1) := by decide +kernel
theorem dX7_listed_8 : decode cX7_listed 8 = .ok (.getfield 7, 3) := by decide +kernel
theorem dX7_listed_11 : decode cX7_listed 11 = .ok (.bipush 6, 2) := by decide +kernel
theorem dX7_listed_13 : decode cX7_listed 13 = .ok (.iload_n 1, 1) := by decide +kernel
theorem dX7_listed_14 : decode cX7_listed 14 = .ok (.iadd, 1) := by decide +kernel
theorem dX7_listed_15 : decode cX7_listed 15 = .ok (.iaload, 1) := by decide +kernel
theorem dX7_listed_16 : decode cX7_listed 16 = .ok (.goto 8, 3) := by decide +kernel
theorem dX7_listed_19 : decode cX7_listed 19 = .ok (.aload_n 0, 1) := by decide +kernel
theorem dX7_listed_20 : decode cX7_listed 20 = .ok (.iconst 0, 1) := by decide +kernel
theorem dX7_listed_21 : decode cX7_listed 21 = .ok (.invokevirtual 109, 3) := by decide +kernel
theorem dX7_listed_24 : decode cX7_listed 24 = .ok (.ireturn, 1) := by decide +kernel
theorem dX7_comes_0 : decode cX7_comes 0 = .ok (.aload_n 0, 1) := by decide +kernel
theorem dX7_comes_1 : decode cX7_comes 1 = .ok (.getfield 7, 3) := by decide +kernel
theorem dX7_comes_4 : decode cX7_comes 4 = .ok (.iconst 0, 1) := by decide +kernel
theorem dX7_comes_5 : decode cX7_comes 5 = .ok (.iaload, 1) := by decide +kernel
theorem dX7_comes_6 : decode cX7_comes 6 = .ok (.istore_n 3, 1) := by decide +kernel
theorem dX7_comes_7 : decode cX7_comes 7 = .ok (.iconst 0, 1) := by decide +kernel
theorem dX7_comes_8 : decode cX7_comes 8 = .ok (.istore 4, 2) := by decide +kernel
theorem dX7_comes_10 : decode cX7_comes 10 = .ok (.iload 4, 2) := by decide +kernel
theorem dX7_comes_12 : decode cX7_comes 12 = .ok (.iconst 5, 1) := by decide +kernel
theorem dX7_comes_13 : decode cX7_comes 13 = .ok (.if_icmp .gt 17, 3) := by decide +kernel
theorem dX7_comes_16 : decode cX7_comes 16 = .ok (.aload_n 0, 1) := by decide +kernel
theorem dX7_comes_17 : decode cX7_comes 17 = .ok (.iload_n 3, 1) := by decide +kernel
theorem dX7_comes_18 : decode cX7_comes 18 = .ok (.iload 4, 2) := by decide +kernel
theorem dX7_comes_20 : decode cX7_comes 20 = .ok (.iconst 0, 1) := by decide +kernel
theorem dX7_comes_21 : decode cX7_comes 21 = .ok (.invokevirtual 79, 3) := by decide +kernel
theorem dX7_comes_24 : decode cX7_comes 24 = .ok (.iinc 4 1, 3) := by decide +kernel
theorem dX7_comes_27 : decode cX7_comes 27 = .ok (.goto (-17), 3) := by decide +kernel
theorem dX7_comes_30 : decode cX7_comes 30 = .ok (.aload_n 0, 1) := by decide +kernel
theorem dX7_comes_31 : decode cX7_comes 31 = .ok (.iload_n 3, 1) := by decide +kernel
theorem dX7_comes_32 : decode cX7_comes 32 = .ok (.iconst 0, 1) := by decide +kernel
theorem dX7_comes_33 : decode cX7_comes 33 = .ok (.iload_n 1, 1) := by decide +kernel
theorem dX7_comes_34 : decode cX7_comes 34 = .ok (.invokevirtual 79, 3) := by decide +kernel
theorem dX7_comes_37 : decode cX7_comes 37 = .ok (.aload_n 0, 1) := by decide +kernel
theorem dX7_comes_38 : decode cX7_comes 38 = .ok (.iload_n 3, 1) := by decide +kernel
theorem dX7_comes_39 : decode cX7_comes 39 = .ok (.iconst 2, 1) := by decide +kernel
theorem dX7_comes_40 : decode cX7_comes 40 = .ok (.iload_n 2, 1) := by decide +kernel
theorem dX7_comes_41 : decode cX7_comes 41 = .ok (.invokevirtual 79, 3) := by decide +kernel
theorem dX7_comes_44 : decode cX7_comes 44 = .ok (.aload_n 0, 1) := by decide +kernel
theorem dX7_comes_45 : decode cX7_comes 45 = .ok (.getfield 7, 3) := by decide +kernel
theorem dX7_comes_48 : decode cX7_comes 48 = .ok (.iconst 0, 1) := by decide +kernel
theorem dX7_comes_49 : decode cX7_comes 49 = .ok (.dup2, 1) := by decide +kernel
theorem dX7_comes_50 : decode cX7_comes 50 = .ok (.iaload, 1) := by decide +kernel
theorem dX7_comes_51 : decode cX7_comes 51 = .ok (.iconst 1, 1) := by decide +kernel
theorem dX7_comes_52 : decode cX7_comes 52 = .ok (.iadd, 1) := by decide +kernel
theorem dX7_comes_53 : decode cX7_comes 53 = .ok (.iastore, 1) := by decide +kernel
theorem dX7_comes_54 : decode cX7_comes 54 = .ok (.iload_n 3, 1) := by decide +kernel
theorem dX7_comes_55 : decode cX7_comes 55 = .ok (.ireturn, 1) := by decide +kernel
theorem dX7_priest_0 : decode cX7_priest 0 = .ok (.iload_n 1, 1) := by decide +kernel
theorem dX7_priest_1 : decode cX7_priest 1 = .ok (.i2l, 1) := by decide +kernel
theorem dX7_priest_2 : decode cX7_priest 2 = .ok (.lconst 0, 1) := by decide +kernel
theorem dX7_priest_3 : decode cX7_priest 3 = .ok (.ldc2_w 118, 3) := by decide +kernel
theorem dX7_priest_6 : decode cX7_priest 6 = .ok (.invokestatic 42, 3) := by decide +kernel
theorem dX7_priest_9 : decode cX7_priest 9 = .ok (.ifCond .eq 10, 3) := by decide +kernel
theorem dX7_priest_12 : decode cX7_priest 12 = .ok (.iload_n 2, 1) := by decide +kernel
theorem dX7_priest_13 : decode cX7_priest 13 = .ok (.invokestatic 103, 3) := by decide +kernel
theorem dX7_priest_16 : decode cX7_priest 16 = .ok (.ifCond .ne 9, 3) := by decide +kernel
theorem dX7_priest_19 : decode cX7_priest 19 = .ok (.aload_n 0, 1) := by decide +kernel
theorem dX7_priest_20 : decode cX7_priest 20 = .ok (.iconst 0, 1) := by decide +kernel
theorem dX7_priest_21 : decode cX7_priest 21 = .ok (.invokevirtual 109, 3) := by decide +kernel
theorem dX7_priest_24 : decode cX7_priest 24 = .ok (.ireturn, 1) := by decide +kernel
theorem dX7_priest_25 : decode cX7_priest 25 = .ok (.aload_n 0, 1) := by decide +kernel
theorem dX7_priest_26 : decode cX7_priest 26 = .ok (.getfield 7, 3) := by decide +kernel
theorem dX7_priest_29 : decode cX7_priest 29 = .ok (.iconst 0, 1) := by decide +kernel
theorem dX7_priest_30 : decode cX7_priest 30 = .ok (.iaload, 1) := by decide +kernel
theorem dX7_priest_31 : decode cX7_priest 31 = .ok (.bipush 8, 2) := by decide +kernel
theorem dX7_priest_33 : decode cX7_priest 33 = .ok (.if_icmp .ne 11, 3) := by decide +kernel
theorem dX7_priest_36 : decode cX7_priest 36 = .ok (.aload_n 0, 1) := by decide +kernel
theorem dX7_priest_37 : decode cX7_priest 37 = .ok (.iconst 1, 1) := by decide +kernel
theorem dX7_priest_38 : decode cX7_priest 38 = .ok (.invokevirtual 109, 3) := by decide +kernel
theorem dX7_priest_41 : decode cX7_priest 41 = .ok (.goto 9, 3) := by decide +kernel
theorem dX7_priest_44 : decode cX7_priest 44 = .ok (.aload_n 0, 1) := by decide +kernel
theorem dX7_priest_45 : decode cX7_priest 45 = .ok (.iload_n 1, 1) := by decide +kernel
theorem dX7_priest_46 : decode cX7_priest 46 = .ok (.iload_n 2, 1) := by decide +kernel
theorem dX7_priest_47 : decode cX7_priest 47 = .ok (.invokevirtual 120, 3) := by decide +kernel
theorem dX7_priest_50 : decode cX7_priest 50 = .ok (.ireturn, 1) := by decide +kernel
theorem dX7_of_0 : decode cX7_of 0 = .ok (.aload_n 0, 1) := by decide +kernel
theorem dX7_of_1 : decode cX7_of 1 = .ok (.iload_n 1, 1) := by decide +kernel
theorem dX7_of_2 : decode cX7_of 2 = .ok (.invokevirtual 123, 3) := by decide +kernel
theorem dX7_of_5 : decode cX7_of 5 = .ok (.ifCond .eq 15, 3) := by decide +kernel
theorem dX7_of_8 : decode cX7_of 8 = .ok (.iload_n 2, 1) := by decide +kernel
theorem dX7_of_9 : decode cX7_of 9 = .ok (.i2l, 1) := by decide +kernel
theorem dX7_of_10 : decode cX7_of 10 = .ok (.lconst 0, 1) := by decide +kernel
theorem dX7_of_11 : decode cX7_of 11 = .ok (.ldc2_w 101, 3) := by decide +kernel
theorem dX7_of_14 : decode cX7_of 14 = .ok (.invokestatic 42, 3) := by decide +kernel
theorem dX7_of_17 : decode cX7_of 17 = .ok (.ifCond .ne 9, 3) := by decide +kernel
theorem dX7_of_20 : decode cX7_of 20 = .ok (.aload_n 0, 1) := by decide +kernel
theorem dX7_of_21 : decode cX7_of 21 = .ok (.iconst 0, 1) := by decide +kernel
theorem dX7_of_22 : decode cX7_of 22 = .ok (.invokevirtual 109, 3) := by decide +kernel
theorem dX7_of_25 : decode cX7_of 25 = .ok (.ireturn, 1) := by decide +kernel
theorem dX7_of_26 : decode cX7_of 26 = .ok (.iload_n 2, 1) := by decide +kernel
theorem dX7_of_27 : decode cX7_of 27 = .ok (.tableswitch 61 6 9 #[29, 35, 41, 47], 29) := by decide +kernel
theorem dX7_of_56 : decode cX7_of 56 = .ok (.aload_n 0, 1) := by decide +kernel
theorem dX7_of_57 : decode cX7_of 57 = .ok (.iload_n 1, 1) := by decide +kernel
theorem dX7_of_58 : decode cX7_of 58 = .ok (.invokevirtual 66, 3) := by decide +kernel
theorem dX7_of_61 : decode cX7_of 61 = .ok (.ireturn, 1) := by decide +kernel
theorem dX7_of_62 : decode cX7_of 62 = .ok (.aload_n 0, 1) := by decide +kernel
theorem dX7_of_63 : decode cX7_of 63 = .ok (.iload_n 1, 1) := by decide +kernel
theorem dX7_of_64 : decode cX7_of 64 = .ok (.invokevirtual 69, 3) := by decide +kernel
theorem dX7_of_67 : decode cX7_of 67 = .ok (.ireturn, 1) := by decide +kernel
theorem dX7_of_68 : decode cX7_of 68 = .ok (.aload_n 0, 1) := by decide +kernel
theorem dX7_of_69 : decode cX7_of 69 = .ok (.iload_n 1, 1) := by decide +kernel
theorem dX7_of_70 : decode cX7_of 70 = .ok (.invokevirtual 95, 3) := by decide +kernel
theorem dX7_of_73 : decode cX7_of 73 = .ok (.ireturn, 1) := by decide +kernel
theorem dX7_of_74 : decode cX7_of 74 = .ok (.aload_n 0, 1) := by decide +kernel
theorem dX7_of_75 : decode cX7_of 75 = .ok (.iload_n 1, 1) := by decide +kernel
theorem dX7_of_76 : decode cX7_of 76 = .ok (.invokevirtual 91, 3) := by decide +kernel
theorem dX7_of_79 : decode cX7_of 79 = .ok (.ifCond .eq 7, 3) := by decide +kernel
theorem dX7_of_82 : decode cX7_of 82 = .ok (.iconst 1, 1) := by decide +kernel
theorem dX7_of_83 : decode cX7_of 83 = .ok (.goto 4, 3) := by decide +kernel
theorem dX7_of_86 : decode cX7_of 86 = .ok (.iconst 0, 1) := by decide +kernel
theorem dX7_of_87 : decode cX7_of 87 = .ok (.ireturn, 1) := by decide +kernel
theorem dX7_of_88 : decode cX7_of 88 = .ok (.aload_n 0, 1) := by decide +kernel
theorem dX7_of_89 : decode cX7_of 89 = .ok (.iload_n 1, 1) := by decide +kernel
theorem dX7_of_90 : decode cX7_of 90 = .ok (.iload_n 2, 1) := by decide +kernel
theorem dX7_of_91 : decode cX7_of 91 = .ok (.invokevirtual 54, 3) := by decide +kernel
theorem dX7_of_94 : decode cX7_of 94 = .ok (.ireturn, 1) := by decide +kernel
theorem dX7_mostOf_0 : decode cX7_mostOf 0 = .ok (.iload_n 0, 1) := by decide +kernel
theorem dX7_mostOf_1 : decode cX7_mostOf 1 = .ok (.ifCond .ne 8, 3) := by decide +kernel
theorem dX7_mostOf_4 : decode cX7_mostOf 4 = .ok (.bipush 6, 2) := by decide +kernel
theorem dX7_mostOf_6 : decode cX7_mostOf 6 = .ok (.goto 28, 3) := by decide +kernel
theorem dX7_mostOf_9 : decode cX7_mostOf 9 = .ok (.iload_n 0, 1) := by decide +kernel
theorem dX7_mostOf_10 : decode cX7_mostOf 10 = .ok (.iconst 1, 1) := by decide +kernel
theorem dX7_mostOf_11 : decode cX7_mostOf 11 = .ok (.if_icmp .ne 9, 3) := by decide +kernel
theorem dX7_mostOf_14 : decode cX7_mostOf 14 = .ok (.sipush 999, 3) := by decide +kernel
theorem dX7_mostOf_17 : decode cX7_mostOf 17 = .ok (.goto 17, 3) := by decide +kernel
theorem dX7_mostOf_20 : decode cX7_mostOf 20 = .ok (.iload_n 0, 1) := by decide +kernel
theorem dX7_mostOf_21 : decode cX7_mostOf 21 = .ok (.iconst 4, 1) := by decide +kernel
theorem dX7_mostOf_22 : decode cX7_mostOf 22 = .ok (.if_icmp .ge 9, 3) := by decide +kernel
theorem dX7_mostOf_25 : decode cX7_mostOf 25 = .ok (.sipush 255, 3) := by decide +kernel
theorem dX7_mostOf_28 : decode cX7_mostOf 28 = .ok (.goto 6, 3) := by decide +kernel
theorem dX7_mostOf_31 : decode cX7_mostOf 31 = .ok (.sipush 9999, 3) := by decide +kernel
theorem dX7_mostOf_34 : decode cX7_mostOf 34 = .ok (.ireturn, 1) := by decide +kernel
theorem dX7_change_0 : decode cX7_change 0 = .ok (.aload_n 0, 1) := by decide +kernel
theorem dX7_change_1 : decode cX7_change 1 = .ok (.iload_n 1, 1) := by decide +kernel
theorem dX7_change_2 : decode cX7_change 2 = .ok (.invokevirtual 123, 3) := by decide +kernel
theorem dX7_change_5 : decode cX7_change 5 = .ok (.ifCond .eq 46, 3) := by decide +kernel
theorem dX7_change_8 : decode cX7_change 8 = .ok (.iload_n 2, 1) := by decide +kernel
theorem dX7_change_9 : decode cX7_change 9 = .ok (.i2l, 1) := by decide +kernel
theorem dX7_change_10 : decode cX7_change 10 = .ok (.lconst 0, 1) := by decide +kernel
theorem dX7_change_11 : decode cX7_change 11 = .ok (.ldc2_w 48, 3) := by decide +kernel
theorem dX7_change_14 : decode cX7_change 14 = .ok (.invokestatic 42, 3) := by decide +kernel
theorem dX7_change_17 : decode cX7_change 17 = .ok (.ifCond .eq 34, 3) := by decide +kernel
theorem dX7_change_20 : decode cX7_change 20 = .ok (.iload_n 3, 1) := by decide +kernel
theorem dX7_change_21 : decode cX7_change 21 = .ok (.i2l, 1) := by decide +kernel
theorem dX7_change_22 : decode cX7_change 22 = .ok (.lconst 0, 1) := by decide +kernel
theorem dX7_change_23 : decode cX7_change 23 = .ok (.iload_n 2, 1) := by decide +kernel
theorem dX7_change_24 : decode cX7_change 24 = .ok (.invokestatic 126, 3) := by decide +kernel
theorem dX7_change_27 : decode cX7_change 27 = .ok (.i2l, 1) := by decide +kernel
theorem dX7_change_28 : decode cX7_change 28 = .ok (.invokestatic 42, 3) := by decide +kernel
theorem dX7_change_31 : decode cX7_change 31 = .ok (.ifCond .eq 20, 3) := by decide +kernel
theorem dX7_change_34 : decode cX7_change 34 = .ok (.aload_n 0, 1) := by decide +kernel
theorem dX7_change_35 : decode cX7_change 35 = .ok (.bipush 12, 2) := by decide +kernel
theorem dX7_change_37 : decode cX7_change 37 = .ok (.bipush 8, 2) := by decide +kernel
theorem dX7_change_39 : decode cX7_change 39 = .ok (.iload_n 2, 1) := by decide +kernel
theorem dX7_change_40 : decode cX7_change 40 = .ok (.imul, 1) := by decide +kernel
theorem dX7_change_41 : decode cX7_change 41 = .ok (.iadd, 1) := by decide +kernel
theorem dX7_change_42 : decode cX7_change 42 = .ok (.iload_n 1, 1) := by decide +kernel
theorem dX7_change_43 : decode cX7_change 43 = .ok (.iadd, 1) := by decide +kernel
theorem dX7_change_44 : decode cX7_change 44 = .ok (.iload_n 3, 1) := by decide +kernel
theorem dX7_change_45 : decode cX7_change 45 = .ok (.invokevirtual 106, 3) := by decide +kernel
theorem dX7_change_48 : decode cX7_change 48 = .ok (.goto 8, 3) := by decide +kernel
theorem dX7_change_51 : decode cX7_change 51 = .ok (.aload_n 0, 1) := by decide +kernel
theorem dX7_change_52 : decode cX7_change 52 = .ok (.iconst 0, 1) := by decide +kernel
theorem dX7_change_53 : decode cX7_change 53 = .ok (.invokevirtual 109, 3) := by decide +kernel
theorem dX7_change_56 : decode cX7_change 56 = .ok (.ireturn, 1) := by decide +kernel
theorem dX7_swells_0 : decode cX7_swells 0 = .ok (.aload_n 0, 1) := by decide +kernel
theorem dX7_swells_1 : decode cX7_swells 1 = .ok (.iload_n 1, 1) := by decide +kernel
theorem dX7_swells_2 : decode cX7_swells 2 = .ok (.invokevirtual 123, 3) := by decide +kernel
theorem dX7_swells_5 : decode cX7_swells 5 = .ok (.ifCond .eq 26, 3) := by decide +kernel
theorem dX7_swells_8 : decode cX7_swells 8 = .ok (.iload_n 2, 1) := by decide +kernel
theorem dX7_swells_9 : decode cX7_swells 9 = .ok (.invokestatic 115, 3) := by decide +kernel
theorem dX7_swells_12 : decode cX7_swells 12 = .ok (.ifCond .eq 19, 3) := by decide +kernel
theorem dX7_swells_15 : decode cX7_swells 15 = .ok (.aload_n 0, 1) := by decide +kernel
theorem dX7_swells_16 : decode cX7_swells 16 = .ok (.iload_n 1, 1) := by decide +kernel
theorem dX7_swells_17 : decode cX7_swells 17 = .ok (.iload_n 2, 1) := by decide +kernel
theorem dX7_swells_18 : decode cX7_swells 18 = .ok (.bipush 100, 2) := by decide +kernel
theorem dX7_swells_20 : decode cX7_swells 20 = .ok (.idiv, 1) := by decide +kernel
theorem dX7_swells_21 : decode cX7_swells 21 = .ok (.iload_n 2, 1) := by decide +kernel
theorem dX7_swells_22 : decode cX7_swells 22 = .ok (.bipush 100, 2) := by decide +kernel
theorem dX7_swells_24 : decode cX7_swells 24 = .ok (.irem, 1) := by decide +kernel
theorem dX7_swells_25 : decode cX7_swells 25 = .ok (.invokevirtual 76, 3) := by decide +kernel
theorem dX7_swells_28 : decode cX7_swells 28 = .ok (.goto 8, 3) := by decide +kernel
theorem dX7_swells_31 : decode cX7_swells 31 = .ok (.aload_n 0, 1) := by decide +kernel
theorem dX7_swells_32 : decode cX7_swells 32 = .ok (.iconst 0, 1) := by decide +kernel
theorem dX7_swells_33 : decode cX7_swells 33 = .ok (.invokevirtual 109, 3) := by decide +kernel
theorem dX7_swells_36 : decode cX7_swells 36 = .ok (.ireturn, 1) := by decide +kernel
theorem dX7_goes_0 : decode cX7_goes 0 = .ok (.iload_n 1, 1) := by decide +kernel
theorem dX7_goes_1 : decode cX7_goes 1 = .ok (.invokestatic 129, 3) := by decide +kernel
theorem dX7_goes_4 : decode cX7_goes 4 = .ok (.ifCond .ne 9, 3) := by decide +kernel
theorem dX7_goes_7 : decode cX7_goes 7 = .ok (.aload_n 0, 1) := by decide +kernel
theorem dX7_goes_8 : decode cX7_goes 8 = .ok (.iconst 0, 1) := by decide +kernel
theorem dX7_goes_9 : decode cX7_goes 9 = .ok (.invokevirtual 109, 3) := by decide +kernel
theorem dX7_goes_12 : decode cX7_goes 12 = .ok (.ireturn, 1) := by decide +kernel
theorem dX7_goes_13 : decode cX7_goes 13 = .ok (.aload_n 0, 1) := by decide +kernel
theorem dX7_goes_14 : decode cX7_goes 14 = .ok (.iload_n 1, 1) := by decide +kernel
theorem dX7_goes_15 : decode cX7_goes 15 = .ok (.iconst (-1), 1) := by decide +kernel
theorem dX7_goes_16 : decode cX7_goes 16 = .ok (.invokevirtual 72, 3) := by decide +kernel
theorem dX7_goes_19 : decode cX7_goes 19 = .ok (.istore_n 2, 1) := by decide +kernel
theorem dX7_goes_20 : decode cX7_goes 20 = .ok (.iload_n 2, 1) := by decide +kernel
theorem dX7_goes_21 : decode cX7_goes 21 = .ok (.ifCond .ge 11, 3) := by decide +kernel
theorem dX7_goes_24 : decode cX7_goes 24 = .ok (.aload_n 0, 1) := by decide +kernel
theorem dX7_goes_25 : decode cX7_goes 25 = .ok (.iconst 3, 1) := by decide +kernel
theorem dX7_goes_26 : decode cX7_goes 26 = .ok (.invokevirtual 109, 3) := by decide +kernel
theorem dX7_goes_29 : decode cX7_goes 29 = .ok (.goto 4, 3) := by decide +kernel
theorem dX7_goes_32 : decode cX7_goes 32 = .ok (.iload_n 2, 1) := by decide +kernel
theorem dX7_goes_33 : decode cX7_goes 33 = .ok (.ireturn, 1) := by decide +kernel
theorem dX7_dies_0 : decode cX7_dies 0 = .ok (.aload_n 0, 1) := by decide +kernel
theorem dX7_dies_1 : decode cX7_dies 1 = .ok (.iload_n 1, 1) := by decide +kernel
theorem dX7_dies_2 : decode cX7_dies 2 = .ok (.invokevirtual 123, 3) := by decide +kernel
theorem dX7_dies_5 : decode cX7_dies 5 = .ok (.ifCond .ne 9, 3) := by decide +kernel
theorem dX7_dies_8 : decode cX7_dies 8 = .ok (.aload_n 0, 1) := by decide +kernel
theorem dX7_dies_9 : decode cX7_dies 9 = .ok (.iconst 0, 1) := by decide +kernel
theorem dX7_dies_10 : decode cX7_dies 10 = .ok (.invokevirtual 109, 3) := by decide +kernel
theorem dX7_dies_13 : decode cX7_dies 13 = .ok (.ireturn, 1) := by decide +kernel
theorem dX7_dies_14 : decode cX7_dies 14 = .ok (.aload_n 0, 1) := by decide +kernel
theorem dX7_dies_15 : decode cX7_dies 15 = .ok (.iconst (-1), 1) := by decide +kernel
theorem dX7_dies_16 : decode cX7_dies 16 = .ok (.iload_n 1, 1) := by decide +kernel
theorem dX7_dies_17 : decode cX7_dies 17 = .ok (.invokevirtual 72, 3) := by decide +kernel
theorem dX7_dies_20 : decode cX7_dies 20 = .ok (.istore_n 2, 1) := by decide +kernel
theorem dX7_dies_21 : decode cX7_dies 21 = .ok (.iload_n 2, 1) := by decide +kernel
theorem dX7_dies_22 : decode cX7_dies 22 = .ok (.ifCond .ge 9, 3) := by decide +kernel
theorem dX7_dies_25 : decode cX7_dies 25 = .ok (.aload_n 0, 1) := by decide +kernel
theorem dX7_dies_26 : decode cX7_dies 26 = .ok (.iconst 3, 1) := by decide +kernel
theorem dX7_dies_27 : decode cX7_dies 27 = .ok (.invokevirtual 109, 3) := by decide +kernel
theorem dX7_dies_30 : decode cX7_dies 30 = .ok (.ireturn, 1) := by decide +kernel
theorem dX7_dies_31 : decode cX7_dies 31 = .ok (.aload_n 0, 1) := by decide +kernel
theorem dX7_dies_32 : decode cX7_dies 32 = .ok (.iload_n 2, 1) := by decide +kernel
theorem dX7_dies_33 : decode cX7_dies 33 = .ok (.iconst 3, 1) := by decide +kernel
theorem dX7_dies_34 : decode cX7_dies 34 = .ok (.aload_n 0, 1) := by decide +kernel
theorem dX7_dies_35 : decode cX7_dies 35 = .ok (.iload_n 2, 1) := by decide +kernel
theorem dX7_dies_36 : decode cX7_dies 36 = .ok (.iconst 3, 1) := by decide +kernel
theorem dX7_dies_37 : decode cX7_dies 37 = .ok (.invokevirtual 54, 3) := by decide +kernel
theorem dX7_dies_40 : decode cX7_dies 40 = .ok (.aload_n 0, 1) := by decide +kernel
theorem dX7_dies_41 : decode cX7_dies 41 = .ok (.iload_n 1, 1) := by decide +kernel
theorem dX7_dies_42 : decode cX7_dies 42 = .ok (.iconst 3, 1) := by decide +kernel
theorem dX7_dies_43 : decode cX7_dies 43 = .ok (.invokevirtual 54, 3) := by decide +kernel
theorem dX7_dies_46 : decode cX7_dies 46 = .ok (.ior, 1) := by decide +kernel
theorem dX7_dies_47 : decode cX7_dies 47 = .ok (.invokevirtual 79, 3) := by decide +kernel
theorem dX7_dies_50 : decode cX7_dies 50 = .ok (.aload_n 0, 1) := by decide +kernel
theorem dX7_dies_51 : decode cX7_dies 51 = .ok (.iload_n 1, 1) := by decide +kernel
theorem dX7_dies_52 : decode cX7_dies 52 = .ok (.iconst 3, 1) := by decide +kernel
theorem dX7_dies_53 : decode cX7_dies 53 = .ok (.iconst 0, 1) := by decide +kernel
theorem dX7_dies_54 : decode cX7_dies 54 = .ok (.invokevirtual 79, 3) := by decide +kernel
theorem dX7_dies_57 : decode cX7_dies 57 = .ok (.aload_n 0, 1) := by decide +kernel
theorem dX7_dies_58 : decode cX7_dies 58 = .ok (.iload_n 1, 1) := by decide +kernel
theorem dX7_dies_59 : decode cX7_dies 59 = .ok (.iconst 1, 1) := by decide +kernel
theorem dX7_dies_60 : decode cX7_dies 60 = .ok (.iconst 0, 1) := by decide +kernel
theorem dX7_dies_61 : decode cX7_dies 61 = .ok (.invokevirtual 79, 3) := by decide +kernel
theorem dX7_dies_64 : decode cX7_dies 64 = .ok (.aload_n 0, 1) := by decide +kernel
theorem dX7_dies_65 : decode cX7_dies 65 = .ok (.iload_n 1, 1) := by decide +kernel
theorem dX7_dies_66 : decode cX7_dies 66 = .ok (.iconst 2, 1) := by decide +kernel
theorem dX7_dies_67 : decode cX7_dies 67 = .ok (.iconst 0, 1) := by decide +kernel
theorem dX7_dies_68 : decode cX7_dies 68 = .ok (.invokevirtual 79, 3) := by decide +kernel
theorem dX7_dies_71 : decode cX7_dies 71 = .ok (.iload_n 2, 1) := by decide +kernel
theorem dX7_dies_72 : decode cX7_dies 72 = .ok (.ireturn, 1) := by decide +kernel
theorem dX7_go_0 : decode cX7_go 0 = .ok (.iload_n 1, 1) := by decide +kernel
theorem dX7_go_1 : decode cX7_go 1 = .ok (.i2l, 1) := by decide +kernel
theorem dX7_go_2 : decode cX7_go 2 = .ok (.lconst 1, 1) := by decide +kernel
theorem dX7_go_3 : decode cX7_go 3 = .ok (.ldc2_w 132, 3) := by decide +kernel
theorem dX7_go_6 : decode cX7_go 6 = .ok (.invokestatic 42, 3) := by decide +kernel
theorem dX7_go_9 : decode cX7_go 9 = .ok (.ifCond .ne 9, 3) := by decide +kernel
theorem dX7_go_12 : decode cX7_go 12 = .ok (.aload_n 0, 1) := by decide +kernel
theorem dX7_go_13 : decode cX7_go 13 = .ok (.iconst 0, 1) := by decide +kernel
theorem dX7_go_14 : decode cX7_go 14 = .ok (.invokevirtual 109, 3) := by decide +kernel
theorem dX7_go_17 : decode cX7_go 17 = .ok (.ireturn, 1) := by decide +kernel
theorem dX7_go_18 : decode cX7_go 18 = .ok (.aload_n 0, 1) := by decide +kernel
theorem dX7_go_19 : decode cX7_go 19 = .ok (.getfield 7, 3) := by decide +kernel
theorem dX7_go_22 : decode cX7_go 22 = .ok (.iconst 1, 1) := by decide +kernel
theorem dX7_go_23 : decode cX7_go 23 = .ok (.iaload, 1) := by decide +kernel
theorem dX7_go_24 : decode cX7_go 24 = .ok (.iload_n 1, 1) := by decide +kernel
theorem dX7_go_25 : decode cX7_go 25 = .ok (.iadd, 1) := by decide +kernel
theorem dX7_go_26 : decode cX7_go 26 = .ok (.ldc 75, 2) := by decide +kernel
theorem dX7_go_28 : decode cX7_go 28 = .ok (.if_icmp .le 9, 3) := by decide +kernel
theorem dX7_go_31 : decode cX7_go 31 = .ok (.aload_n 0, 1) := by decide +kernel
theorem dX7_go_32 : decode cX7_go 32 = .ok (.iconst 4, 1) := by decide +kernel
theorem dX7_go_33 : decode cX7_go 33 = .ok (.invokevirtual 109, 3) := by decide +kernel
theorem dX7_go_36 : decode cX7_go 36 = .ok (.ireturn, 1) := by decide +kernel
theorem dX7_go_37 : decode cX7_go 37 = .ok (.aload_n 0, 1) := by decide +kernel
theorem dX7_go_38 : decode cX7_go 38 = .ok (.iload_n 1, 1) := by decide +kernel
theorem dX7_go_39 : decode cX7_go 39 = .ok (.invokevirtual 134, 3) := by decide +kernel
theorem dX7_go_42 : decode cX7_go 42 = .ok (.aload_n 0, 1) := by decide +kernel
theorem dX7_go_43 : decode cX7_go 43 = .ok (.getfield 7, 3) := by decide +kernel
theorem dX7_go_46 : decode cX7_go 46 = .ok (.iconst 4, 1) := by decide +kernel
theorem dX7_go_47 : decode cX7_go 47 = .ok (.iaload, 1) := by decide +kernel
theorem dX7_go_48 : decode cX7_go 48 = .ok (.ireturn, 1) := by decide +kernel
theorem dX7_fullest_0 : decode cX7_fullest 0 = .ok (.iconst (-1), 1) := by decide +kernel
theorem dX7_fullest_1 : decode cX7_fullest 1 = .ok (.istore_n 1, 1) := by decide +kernel
theorem dX7_fullest_2 : decode cX7_fullest 2 = .ok (.iconst 0, 1) := by decide +kernel
theorem dX7_fullest_3 : decode cX7_fullest 3 = .ok (.istore_n 2, 1) := by decide +kernel
theorem dX7_fullest_4 : decode cX7_fullest 4 = .ok (.iload_n 2, 1) := by decide +kernel
theorem dX7_fullest_5 : decode cX7_fullest 5 = .ok (.aload_n 0, 1) := by decide +kernel
theorem dX7_fullest_6 : decode cX7_fullest 6 = .ok (.getfield 7, 3) := by decide +kernel
theorem dX7_fullest_9 : decode cX7_fullest 9 = .ok (.iconst 0, 1) := by decide +kernel
theorem dX7_fullest_10 : decode cX7_fullest 10 = .ok (.iaload, 1) := by decide +kernel
theorem dX7_fullest_11 : decode cX7_fullest 11 = .ok (.if_icmp .ge 34, 3) := by decide +kernel
theorem dX7_fullest_14 : decode cX7_fullest 14 = .ok (.iload_n 1, 1) := by decide +kernel
theorem dX7_fullest_15 : decode cX7_fullest 15 = .ok (.ifCond .lt 18, 3) := by decide +kernel
theorem dX7_fullest_18 : decode cX7_fullest 18 = .ok (.aload_n 0, 1) := by decide +kernel
theorem dX7_fullest_19 : decode cX7_fullest 19 = .ok (.iload_n 2, 1) := by decide +kernel
theorem dX7_fullest_20 : decode cX7_fullest 20 = .ok (.iconst 1, 1) := by decide +kernel
theorem dX7_fullest_21 : decode cX7_fullest 21 = .ok (.invokevirtual 54, 3) := by decide +kernel
theorem dX7_fullest_24 : decode cX7_fullest 24 = .ok (.aload_n 0, 1) := by decide +kernel
theorem dX7_fullest_25 : decode cX7_fullest 25 = .ok (.iload_n 1, 1) := by decide +kernel
theorem dX7_fullest_26 : decode cX7_fullest 26 = .ok (.iconst 1, 1) := by decide +kernel
theorem dX7_fullest_27 : decode cX7_fullest 27 = .ok (.invokevirtual 54, 3) := by decide +kernel
theorem dX7_fullest_30 : decode cX7_fullest 30 = .ok (.if_icmp .le 7, 3) := by decide +kernel
theorem dX7_fullest_33 : decode cX7_fullest 33 = .ok (.iload_n 2, 1) := by decide +kernel
theorem dX7_fullest_34 : decode cX7_fullest 34 = .ok (.goto 4, 3) := by decide +kernel
theorem dX7_fullest_37 : decode cX7_fullest 37 = .ok (.iload_n 1, 1) := by decide +kernel
theorem dX7_fullest_38 : decode cX7_fullest 38 = .ok (.istore_n 1, 1) := by decide +kernel
theorem dX7_fullest_39 : decode cX7_fullest 39 = .ok (.iinc 2 1, 3) := by decide +kernel
theorem dX7_fullest_42 : decode cX7_fullest 42 = .ok (.goto (-38), 3) := by decide +kernel
theorem dX7_fullest_45 : decode cX7_fullest 45 = .ok (.iload_n 1, 1) := by decide +kernel
theorem dX7_fullest_46 : decode cX7_fullest 46 = .ok (.ireturn, 1) := by decide +kernel
theorem dX7_now_0 : decode cX7_now 0 = .ok (.iload_n 1, 1) := by decide +kernel
theorem dX7_now_1 : decode cX7_now 1 = .ok (.tableswitch 103 0 7 #[47, 54, 61, 68, 74, 80, 85, 91], 47) := by decide +kernel
theorem dX7_now_48 : decode cX7_now 48 = .ok (.aload_n 0, 1) := by decide +kernel
theorem dX7_now_49 : decode cX7_now 49 = .ok (.getfield 7, 3) := by decide +kernel
theorem dX7_now_52 : decode cX7_now 52 = .ok (.iconst 1, 1) := by decide +kernel
theorem dX7_now_53 : decode cX7_now 53 = .ok (.iaload, 1) := by decide +kernel
theorem dX7_now_54 : decode cX7_now 54 = .ok (.ireturn, 1) := by decide +kernel
theorem dX7_now_55 : decode cX7_now 55 = .ok (.aload_n 0, 1) := by decide +kernel
theorem dX7_now_56 : decode cX7_now 56 = .ok (.getfield 7, 3) := by decide +kernel
theorem dX7_now_59 : decode cX7_now 59 = .ok (.iconst 4, 1) := by decide +kernel
theorem dX7_now_60 : decode cX7_now 60 = .ok (.iaload, 1) := by decide +kernel
theorem dX7_now_61 : decode cX7_now 61 = .ok (.ireturn, 1) := by decide +kernel
theorem dX7_now_62 : decode cX7_now 62 = .ok (.aload_n 0, 1) := by decide +kernel
theorem dX7_now_63 : decode cX7_now 63 = .ok (.getfield 7, 3) := by decide +kernel
theorem dX7_now_66 : decode cX7_now 66 = .ok (.iconst 5, 1) := by decide +kernel
theorem dX7_now_67 : decode cX7_now 67 = .ok (.iaload, 1) := by decide +kernel
theorem dX7_now_68 : decode cX7_now 68 = .ok (.ireturn, 1) := by decide +kernel
theorem dX7_now_69 : decode cX7_now 69 = .ok (.aload_n 0, 1) := by decide +kernel
theorem dX7_now_70 : decode cX7_now 70 = .ok (.iconst 3, 1) := by decide +kernel
theorem dX7_now_71 : decode cX7_now 71 = .ok (.invokevirtual 137, 3) := by decide +kernel
theorem dX7_now_74 : decode cX7_now 74 = .ok (.ireturn, 1) := by decide +kernel
theorem dX7_now_75 : decode cX7_now 75 = .ok (.aload_n 0, 1) := by decide +kernel
theorem dX7_now_76 : decode cX7_now 76 = .ok (.iconst 1, 1) := by decide +kernel
theorem dX7_now_77 : decode cX7_now 77 = .ok (.invokevirtual 140, 3) := by decide +kernel
theorem dX7_now_80 : decode cX7_now 80 = .ok (.ireturn, 1) := by decide +kernel
theorem dX7_now_81 : decode cX7_now 81 = .ok (.aload_n 0, 1) := by decide +kernel
theorem dX7_now_82 : decode cX7_now 82 = .ok (.invokevirtual 143, 3) := by decide +kernel
theorem dX7_now_85 : decode cX7_now 85 = .ok (.ireturn, 1) := by decide +kernel
theorem dX7_now_86 : decode cX7_now 86 = .ok (.aload_n 0, 1) := by decide +kernel
theorem dX7_now_87 : decode cX7_now 87 = .ok (.iconst 5, 1) := by decide +kernel
theorem dX7_now_88 : decode cX7_now 88 = .ok (.invokevirtual 140, 3) := by decide +kernel
theorem dX7_now_91 : decode cX7_now 91 = .ok (.ireturn, 1) := by decide +kernel
theorem dX7_now_92 : decode cX7_now 92 = .ok (.sipush 255, 3) := by decide +kernel
theorem dX7_now_95 : decode cX7_now 95 = .ok (.aload_n 0, 1) := by decide +kernel
theorem dX7_now_96 : decode cX7_now 96 = .ok (.iconst 2, 1) := by decide +kernel
theorem dX7_now_97 : decode cX7_now 97 = .ok (.invokevirtual 137, 3) := by decide +kernel
theorem dX7_now_100 : decode cX7_now 100 = .ok (.iconst (-1), 1) := by decide +kernel
theorem dX7_now_101 : decode cX7_now 101 = .ok (.ixor, 1) := by decide +kernel
theorem dX7_now_102 : decode cX7_now 102 = .ok (.iand, 1) := by decide +kernel
theorem dX7_now_103 : decode cX7_now 103 = .ok (.ireturn, 1) := by decide +kernel
theorem dX7_now_104 : decode cX7_now 104 = .ok (.aload_n 0, 1) := by decide +kernel
theorem dX7_now_105 : decode cX7_now 105 = .ok (.iconst 0, 1) := by decide +kernel
theorem dX7_now_106 : decode cX7_now 106 = .ok (.invokevirtual 109, 3) := by decide +kernel
theorem dX7_now_109 : decode cX7_now 109 = .ok (.ireturn, 1) := by decide +kernel
theorem dX7_behind_0 : decode cX7_behind 0 = .ok (.aload_n 0, 1) := by decide +kernel
theorem dX7_behind_1 : decode cX7_behind 1 = .ok (.iload_n 1, 1) := by decide +kernel
theorem dX7_behind_2 : decode cX7_behind 2 = .ok (.invokevirtual 134, 3) := by decide +kernel
theorem dX7_behind_5 : decode cX7_behind 5 = .ok (.aload_n 0, 1) := by decide +kernel
theorem dX7_behind_6 : decode cX7_behind 6 = .ok (.getfield 7, 3) := by decide +kernel
theorem dX7_behind_9 : decode cX7_behind 9 = .ok (.iload_n 2, 1) := by decide +kernel
theorem dX7_behind_10 : decode cX7_behind 10 = .ok (.iaload, 1) := by decide +kernel
theorem dX7_behind_11 : decode cX7_behind 11 = .ok (.istore_n 3, 1) := by decide +kernel
theorem dX7_behind_12 : decode cX7_behind 12 = .ok (.aload_n 0, 1) := by decide +kernel
theorem dX7_behind_13 : decode cX7_behind 13 = .ok (.getfield 16, 3) := by decide +kernel
theorem dX7_behind_16 : decode cX7_behind 16 = .ok (.aload_n 0, 1) := by decide +kernel
theorem dX7_behind_17 : decode cX7_behind 17 = .ok (.getfield 7, 3) := by decide +kernel
theorem dX7_behind_20 : decode cX7_behind 20 = .ok (.invokestatic 146, 3) := by decide +kernel
theorem dX7_behind_23 : decode cX7_behind 23 = .ok (.iload_n 3, 1) := by decide +kernel
theorem dX7_behind_24 : decode cX7_behind 24 = .ok (.ireturn, 1) := by decide +kernel
theorem dX7_ahead_0 : decode cX7_ahead 0 = .ok (.aload_n 0, 1) := by decide +kernel
theorem dX7_ahead_1 : decode cX7_ahead 1 = .ok (.iload_n 1, 1) := by decide +kernel
theorem dX7_ahead_2 : decode cX7_ahead 2 = .ok (.invokevirtual 123, 3) := by decide +kernel
theorem dX7_ahead_5 : decode cX7_ahead 5 = .ok (.ifCond .eq 32, 3) := by decide +kernel
theorem dX7_ahead_8 : decode cX7_ahead 8 = .ok (.iload_n 2, 1) := by decide +kernel
theorem dX7_ahead_9 : decode cX7_ahead 9 = .ok (.i2l, 1) := by decide +kernel
theorem dX7_ahead_10 : decode cX7_ahead 10 = .ok (.lconst 1, 1) := by decide +kernel
theorem dX7_ahead_11 : decode cX7_ahead 11 = .ok (.ldc2_w 118, 3) := by decide +kernel
theorem dX7_ahead_14 : decode cX7_ahead 14 = .ok (.invokestatic 42, 3) := by decide +kernel
theorem dX7_ahead_17 : decode cX7_ahead 17 = .ok (.ifCond .eq 20, 3) := by decide +kernel
theorem dX7_ahead_20 : decode cX7_ahead 20 = .ok (.iload_n 2, 1) := by decide +kernel
theorem dX7_ahead_21 : decode cX7_ahead 21 = .ok (.iconst 2, 1) := by decide +kernel
theorem dX7_ahead_22 : decode cX7_ahead 22 = .ok (.if_icmp .eq 15, 3) := by decide +kernel
theorem dX7_ahead_25 : decode cX7_ahead 25 = .ok (.iload_n 3, 1) := by decide +kernel
theorem dX7_ahead_26 : decode cX7_ahead 26 = .ok (.i2l, 1) := by decide +kernel
theorem dX7_ahead_27 : decode cX7_ahead 27 = .ok (.lconst 0, 1) := by decide +kernel
theorem dX7_ahead_28 : decode cX7_ahead 28 = .ok (.ldc2_w 150, 3) := by decide +kernel
theorem dX7_ahead_31 : decode cX7_ahead 31 = .ok (.invokestatic 42, 3) := by decide +kernel
theorem dX7_ahead_34 : decode cX7_ahead 34 = .ok (.ifCond .ne 9, 3) := by decide +kernel
theorem dX7_ahead_37 : decode cX7_ahead 37 = .ok (.aload_n 0, 1) := by decide +kernel
theorem dX7_ahead_38 : decode cX7_ahead 38 = .ok (.iconst 0, 1) := by decide +kernel
theorem dX7_ahead_39 : decode cX7_ahead 39 = .ok (.invokevirtual 109, 3) := by decide +kernel
theorem dX7_ahead_42 : decode cX7_ahead 42 = .ok (.ireturn, 1) := by decide +kernel
theorem dX7_ahead_43 : decode cX7_ahead 43 = .ok (.aload_n 0, 1) := by decide +kernel
theorem dX7_ahead_44 : decode cX7_ahead 44 = .ok (.getfield 7, 3) := by decide +kernel
theorem dX7_ahead_47 : decode cX7_ahead 47 = .ok (.aload_n 0, 1) := by decide +kernel
theorem dX7_ahead_48 : decode cX7_ahead 48 = .ok (.getfield 16, 3) := by decide +kernel
theorem dX7_ahead_51 : decode cX7_ahead 51 = .ok (.invokestatic 146, 3) := by decide +kernel
theorem dX7_ahead_54 : decode cX7_ahead 54 = .ok (.aload_n 0, 1) := by decide +kernel
theorem dX7_ahead_55 : decode cX7_ahead 55 = .ok (.iload_n 3, 1) := by decide +kernel
theorem dX7_ahead_56 : decode cX7_ahead 56 = .ok (.invokevirtual 134, 3) := by decide +kernel
theorem dX7_ahead_59 : decode cX7_ahead 59 = .ok (.iload_n 2, 1) := by decide +kernel
theorem dX7_ahead_60 : decode cX7_ahead 60 = .ok (.bipush 6, 2) := by decide +kernel
theorem dX7_ahead_62 : decode cX7_ahead 62 = .ok (.if_icmp .ne 11, 3) := by decide +kernel
theorem dX7_ahead_65 : decode cX7_ahead 65 = .ok (.aload_n 0, 1) := by decide +kernel
theorem dX7_ahead_66 : decode cX7_ahead 66 = .ok (.iload_n 1, 1) := by decide +kernel
theorem dX7_ahead_67 : decode cX7_ahead 67 = .ok (.invokevirtual 66, 3) := by decide +kernel
theorem dX7_ahead_70 : decode cX7_ahead 70 = .ok (.goto 9, 3) := by decide +kernel
theorem dX7_ahead_73 : decode cX7_ahead 73 = .ok (.aload_n 0, 1) := by decide +kernel
theorem dX7_ahead_74 : decode cX7_ahead 74 = .ok (.iload_n 1, 1) := by decide +kernel
theorem dX7_ahead_75 : decode cX7_ahead 75 = .ok (.iload_n 2, 1) := by decide +kernel
theorem dX7_ahead_76 : decode cX7_ahead 76 = .ok (.invokevirtual 54, 3) := by decide +kernel
theorem dX7_ahead_79 : decode cX7_ahead 79 = .ok (.istore 4, 2) := by decide +kernel
theorem dX7_ahead_81 : decode cX7_ahead 81 = .ok (.aload_n 0, 1) := by decide +kernel
theorem dX7_ahead_82 : decode cX7_ahead 82 = .ok (.getfield 16, 3) := by decide +kernel
theorem dX7_ahead_85 : decode cX7_ahead 85 = .ok (.aload_n 0, 1) := by decide +kernel
theorem dX7_ahead_86 : decode cX7_ahead 86 = .ok (.getfield 7, 3) := by decide +kernel
theorem dX7_ahead_89 : decode cX7_ahead 89 = .ok (.invokestatic 146, 3) := by decide +kernel
theorem dX7_ahead_92 : decode cX7_ahead 92 = .ok (.iload 4, 2) := by decide +kernel
theorem dX7_ahead_94 : decode cX7_ahead 94 = .ok (.ireturn, 1) := by decide +kernel
theorem dX7_firstOf_0 : decode cX7_firstOf 0 = .ok (.aload_n 0, 1) := by decide +kernel
theorem dX7_firstOf_1 : decode cX7_firstOf 1 = .ok (.getfield 7, 3) := by decide +kernel
theorem dX7_firstOf_4 : decode cX7_firstOf 4 = .ok (.aload_n 0, 1) := by decide +kernel
theorem dX7_firstOf_5 : decode cX7_firstOf 5 = .ok (.getfield 16, 3) := by decide +kernel
theorem dX7_firstOf_8 : decode cX7_firstOf 8 = .ok (.invokestatic 146, 3) := by decide +kernel
theorem dX7_firstOf_11 : decode cX7_firstOf 11 = .ok (.iconst 0, 1) := by decide +kernel
theorem dX7_firstOf_12 : decode cX7_firstOf 12 = .ok (.istore 4, 2) := by decide +kernel
theorem dX7_firstOf_14 : decode cX7_firstOf 14 = .ok (.iload 4, 2) := by decide +kernel
theorem dX7_firstOf_16 : decode cX7_firstOf 16 = .ok (.sipush 200, 3) := by decide +kernel
theorem dX7_firstOf_19 : decode cX7_firstOf 19 = .ok (.if_icmp .ge 30, 3) := by decide +kernel
theorem dX7_firstOf_22 : decode cX7_firstOf 22 = .ok (.aload_n 0, 1) := by decide +kernel
theorem dX7_firstOf_23 : decode cX7_firstOf 23 = .ok (.getfield 7, 3) := by decide +kernel
theorem dX7_firstOf_26 : decode cX7_firstOf 26 = .ok (.iload_n 1, 1) := by decide +kernel
theorem dX7_firstOf_27 : decode cX7_firstOf 27 = .ok (.iaload, 1) := by decide +kernel
theorem dX7_firstOf_28 : decode cX7_firstOf 28 = .ok (.i2l, 1) := by decide +kernel
theorem dX7_firstOf_29 : decode cX7_firstOf 29 = .ok (.iload_n 2, 1) := by decide +kernel
theorem dX7_firstOf_30 : decode cX7_firstOf 30 = .ok (.i2l, 1) := by decide +kernel
theorem dX7_firstOf_31 : decode cX7_firstOf 31 = .ok (.iload_n 3, 1) := by decide +kernel
theorem dX7_firstOf_32 : decode cX7_firstOf 32 = .ok (.i2l, 1) := by decide +kernel
theorem dX7_firstOf_33 : decode cX7_firstOf 33 = .ok (.invokestatic 42, 3) := by decide +kernel
theorem dX7_firstOf_36 : decode cX7_firstOf 36 = .ok (.ifCond .ne 13, 3) := by decide +kernel
theorem dX7_firstOf_39 : decode cX7_firstOf 39 = .ok (.aload_n 0, 1) := by decide +kernel
theorem dX7_firstOf_40 : decode cX7_firstOf 40 = .ok (.invokevirtual 98, 3) := by decide +kernel
theorem dX7_firstOf_43 : decode cX7_firstOf 43 = .ok (.iinc 4 1, 3) := by decide +kernel
theorem dX7_firstOf_46 : decode cX7_firstOf 46 = .ok (.goto (-32), 3) := by decide +kernel
theorem dX7_firstOf_49 : decode cX7_firstOf 49 = .ok (.aload_n 0, 1) := by decide +kernel
theorem dX7_firstOf_50 : decode cX7_firstOf 50 = .ok (.getfield 7, 3) := by decide +kernel
theorem dX7_firstOf_53 : decode cX7_firstOf 53 = .ok (.iload_n 1, 1) := by decide +kernel
theorem dX7_firstOf_54 : decode cX7_firstOf 54 = .ok (.iaload, 1) := by decide +kernel
theorem dX7_firstOf_55 : decode cX7_firstOf 55 = .ok (.i2l, 1) := by decide +kernel
theorem dX7_firstOf_56 : decode cX7_firstOf 56 = .ok (.iload_n 2, 1) := by decide +kernel
theorem dX7_firstOf_57 : decode cX7_firstOf 57 = .ok (.i2l, 1) := by decide +kernel
theorem dX7_firstOf_58 : decode cX7_firstOf 58 = .ok (.iload_n 3, 1) := by decide +kernel
theorem dX7_firstOf_59 : decode cX7_firstOf 59 = .ok (.i2l, 1) := by decide +kernel
theorem dX7_firstOf_60 : decode cX7_firstOf 60 = .ok (.invokestatic 42, 3) := by decide +kernel
theorem dX7_firstOf_63 : decode cX7_firstOf 63 = .ok (.istore 5, 2) := by decide +kernel
theorem dX7_firstOf_65 : decode cX7_firstOf 65 = .ok (.aload_n 0, 1) := by decide +kernel
theorem dX7_firstOf_66 : decode cX7_firstOf 66 = .ok (.getfield 16, 3) := by decide +kernel
theorem dX7_firstOf_69 : decode cX7_firstOf 69 = .ok (.aload_n 0, 1) := by decide +kernel
theorem dX7_firstOf_70 : decode cX7_firstOf 70 = .ok (.getfield 7, 3) := by decide +kernel
theorem dX7_firstOf_73 : decode cX7_firstOf 73 = .ok (.invokestatic 146, 3) := by decide +kernel
theorem dX7_firstOf_76 : decode cX7_firstOf 76 = .ok (.iload 5, 2) := by decide +kernel
theorem dX7_firstOf_78 : decode cX7_firstOf 78 = .ok (.ifCond .eq 8, 3) := by decide +kernel
theorem dX7_firstOf_81 : decode cX7_firstOf 81 = .ok (.iload 4, 2) := by decide +kernel
theorem dX7_firstOf_83 : decode cX7_firstOf 83 = .ok (.goto 8, 3) := by decide +kernel
theorem dX7_firstOf_86 : decode cX7_firstOf 86 = .ok (.aload_n 0, 1) := by decide +kernel
theorem dX7_firstOf_87 : decode cX7_firstOf 87 = .ok (.iconst 3, 1) := by decide +kernel
theorem dX7_firstOf_88 : decode cX7_firstOf 88 = .ok (.invokevirtual 109, 3) := by decide +kernel
theorem dX7_firstOf_91 : decode cX7_firstOf 91 = .ok (.ireturn, 1) := by decide +kernel
theorem dX7_ill_0 : decode cX7_ill 0 = .ok (.aload_n 0, 1) := by decide +kernel
theorem dX7_ill_1 : decode cX7_ill 1 = .ok (.iload_n 1, 1) := by decide +kernel
theorem dX7_ill_2 : decode cX7_ill 2 = .ok (.invokevirtual 123, 3) := by decide +kernel
theorem dX7_ill_5 : decode cX7_ill 5 = .ok (.ifCond .eq 25, 3) := by decide +kernel
theorem dX7_ill_8 : decode cX7_ill 8 = .ok (.aload_n 0, 1) := by decide +kernel
theorem dX7_ill_9 : decode cX7_ill 9 = .ok (.bipush 52, 2) := by decide +kernel
theorem dX7_ill_11 : decode cX7_ill 11 = .ok (.iload_n 1, 1) := by decide +kernel
theorem dX7_ill_12 : decode cX7_ill 12 = .ok (.iadd, 1) := by decide +kernel
theorem dX7_ill_13 : decode cX7_ill 13 = .ok (.aload_n 0, 1) := by decide +kernel
theorem dX7_ill_14 : decode cX7_ill 14 = .ok (.iload_n 1, 1) := by decide +kernel
theorem dX7_ill_15 : decode cX7_ill 15 = .ok (.iconst 5, 1) := by decide +kernel
theorem dX7_ill_16 : decode cX7_ill 16 = .ok (.invokevirtual 54, 3) := by decide +kernel
theorem dX7_ill_19 : decode cX7_ill 19 = .ok (.iconst 1, 1) := by decide +kernel
theorem dX7_ill_20 : decode cX7_ill 20 = .ok (.iadd, 1) := by decide +kernel
theorem dX7_ill_21 : decode cX7_ill 21 = .ok (.sipush 9999, 3) := by decide +kernel
theorem dX7_ill_24 : decode cX7_ill 24 = .ok (.invokevirtual 152, 3) := by decide +kernel
theorem dX7_ill_27 : decode cX7_ill 27 = .ok (.goto 8, 3) := by decide +kernel
theorem dX7_ill_30 : decode cX7_ill 30 = .ok (.aload_n 0, 1) := by decide +kernel
theorem dX7_ill_31 : decode cX7_ill 31 = .ok (.iconst 0, 1) := by decide +kernel
theorem dX7_ill_32 : decode cX7_ill 32 = .ok (.invokevirtual 109, 3) := by decide +kernel
theorem dX7_ill_35 : decode cX7_ill 35 = .ok (.ireturn, 1) := by decide +kernel
theorem dX7_out_0 : decode cX7_out 0 = .ok (.iload_n 1, 1) := by decide +kernel
theorem dX7_out_1 : decode cX7_out 1 = .ok (.invokestatic 129, 3) := by decide +kernel
theorem dX7_out_4 : decode cX7_out 4 = .ok (.ifCond .ne 9, 3) := by decide +kernel
theorem dX7_out_7 : decode cX7_out 7 = .ok (.aload_n 0, 1) := by decide +kernel
theorem dX7_out_8 : decode cX7_out 8 = .ok (.iconst 0, 1) := by decide +kernel
theorem dX7_out_9 : decode cX7_out 9 = .ok (.invokevirtual 109, 3) := by decide +kernel
theorem dX7_out_12 : decode cX7_out 12 = .ok (.ireturn, 1) := by decide +kernel
theorem dX7_out_13 : decode cX7_out 13 = .ok (.aload_n 0, 1) := by decide +kernel
theorem dX7_out_14 : decode cX7_out 14 = .ok (.getfield 7, 3) := by decide +kernel
theorem dX7_out_17 : decode cX7_out 17 = .ok (.aload_n 0, 1) := by decide +kernel
theorem dX7_out_18 : decode cX7_out 18 = .ok (.getfield 16, 3) := by decide +kernel
theorem dX7_out_21 : decode cX7_out 21 = .ok (.invokestatic 146, 3) := by decide +kernel
theorem dX7_out_24 : decode cX7_out 24 = .ok (.iconst 0, 1) := by decide +kernel
theorem dX7_out_25 : decode cX7_out 25 = .ok (.istore_n 2, 1) := by decide +kernel
theorem dX7_out_26 : decode cX7_out 26 = .ok (.iload_n 2, 1) := by decide +kernel
theorem dX7_out_27 : decode cX7_out 27 = .ok (.sipush 200, 3) := by decide +kernel
theorem dX7_out_30 : decode cX7_out 30 = .ok (.if_icmp .ge 26, 3) := by decide +kernel
theorem dX7_out_33 : decode cX7_out 33 = .ok (.aload_n 0, 1) := by decide +kernel
theorem dX7_out_34 : decode cX7_out 34 = .ok (.getfield 7, 3) := by decide +kernel
theorem dX7_out_37 : decode cX7_out 37 = .ok (.iconst 4, 1) := by decide +kernel
theorem dX7_out_38 : decode cX7_out 38 = .ok (.iaload, 1) := by decide +kernel
theorem dX7_out_39 : decode cX7_out 39 = .ok (.iload_n 1, 1) := by decide +kernel
theorem dX7_out_40 : decode cX7_out 40 = .ok (.ishr, 1) := by decide +kernel
theorem dX7_out_41 : decode cX7_out 41 = .ok (.iconst 1, 1) := by decide +kernel
theorem dX7_out_42 : decode cX7_out 42 = .ok (.iand, 1) := by decide +kernel
theorem dX7_out_43 : decode cX7_out 43 = .ok (.ifCond .ne 13, 3) := by decide +kernel
theorem dX7_out_46 : decode cX7_out 46 = .ok (.aload_n 0, 1) := by decide +kernel
theorem dX7_out_47 : decode cX7_out 47 = .ok (.invokevirtual 98, 3) := by decide +kernel
theorem dX7_out_50 : decode cX7_out 50 = .ok (.iinc 2 1, 3) := by decide +kernel
theorem dX7_out_53 : decode cX7_out 53 = .ok (.goto (-27), 3) := by decide +kernel
theorem dX7_out_56 : decode cX7_out 56 = .ok (.aload_n 0, 1) := by decide +kernel
theorem dX7_out_57 : decode cX7_out 57 = .ok (.getfield 7, 3) := by decide +kernel
theorem dX7_out_60 : decode cX7_out 60 = .ok (.iconst 4, 1) := by decide +kernel
theorem dX7_out_61 : decode cX7_out 61 = .ok (.iaload, 1) := by decide +kernel
theorem dX7_out_62 : decode cX7_out 62 = .ok (.iload_n 1, 1) := by decide +kernel
theorem dX7_out_63 : decode cX7_out 63 = .ok (.ishr, 1) := by decide +kernel
theorem dX7_out_64 : decode cX7_out 64 = .ok (.iconst 1, 1) := by decide +kernel
theorem dX7_out_65 : decode cX7_out 65 = .ok (.iand, 1) := by decide +kernel
theorem dX7_out_66 : decode cX7_out 66 = .ok (.iconst 1, 1) := by decide +kernel
theorem dX7_out_67 : decode cX7_out 67 = .ok (.if_icmp .ne 7, 3) := by decide +kernel
theorem dX7_out_70 : decode cX7_out 70 = .ok (.iconst 1, 1) := by decide +kernel
theorem dX7_out_71 : decode cX7_out 71 = .ok (.goto 4, 3) := by decide +kernel
theorem dX7_out_74 : decode cX7_out 74 = .ok (.iconst 0, 1) := by decide +kernel
theorem dX7_out_75 : decode cX7_out 75 = .ok (.istore_n 3, 1) := by decide +kernel
theorem dX7_out_76 : decode cX7_out 76 = .ok (.aload_n 0, 1) := by decide +kernel
theorem dX7_out_77 : decode cX7_out 77 = .ok (.getfield 16, 3) := by decide +kernel
theorem dX7_out_80 : decode cX7_out 80 = .ok (.aload_n 0, 1) := by decide +kernel
theorem dX7_out_81 : decode cX7_out 81 = .ok (.getfield 7, 3) := by decide +kernel
theorem dX7_out_84 : decode cX7_out 84 = .ok (.invokestatic 146, 3) := by decide +kernel
theorem dX7_out_87 : decode cX7_out 87 = .ok (.iload_n 3, 1) := by decide +kernel
theorem dX7_out_88 : decode cX7_out 88 = .ok (.ifCond .eq 7, 3) := by decide +kernel
theorem dX7_out_91 : decode cX7_out 91 = .ok (.iload_n 2, 1) := by decide +kernel
theorem dX7_out_92 : decode cX7_out 92 = .ok (.goto 8, 3) := by decide +kernel
theorem dX7_out_95 : decode cX7_out 95 = .ok (.aload_n 0, 1) := by decide +kernel
theorem dX7_out_96 : decode cX7_out 96 = .ok (.iconst 3, 1) := by decide +kernel
theorem dX7_out_97 : decode cX7_out 97 = .ok (.invokevirtual 109, 3) := by decide +kernel
theorem dX7_out_100 : decode cX7_out 100 = .ok (.ireturn, 1) := by decide +kernel
theorem dX7_wise_0 : decode cX7_wise 0 = .ok (.aload_n 0, 1) := by decide +kernel
theorem dX7_wise_1 : decode cX7_wise 1 = .ok (.iload_n 1, 1) := by decide +kernel
theorem dX7_wise_2 : decode cX7_wise 2 = .ok (.invokevirtual 123, 3) := by decide +kernel
theorem dX7_wise_5 : decode cX7_wise 5 = .ok (.ifCond .eq 15, 3) := by decide +kernel
theorem dX7_wise_8 : decode cX7_wise 8 = .ok (.iload_n 2, 1) := by decide +kernel
theorem dX7_wise_9 : decode cX7_wise 9 = .ok (.i2l, 1) := by decide +kernel
theorem dX7_wise_10 : decode cX7_wise 10 = .ok (.lconst 0, 1) := by decide +kernel
theorem dX7_wise_11 : decode cX7_wise 11 = .ok (.ldc2_w 155, 3) := by decide +kernel
theorem dX7_wise_14 : decode cX7_wise 14 = .ok (.invokestatic 42, 3) := by decide +kernel
theorem dX7_wise_17 : decode cX7_wise 17 = .ok (.ifCond .ne 9, 3) := by decide +kernel
theorem dX7_wise_20 : decode cX7_wise 20 = .ok (.aload_n 0, 1) := by decide +kernel
theorem dX7_wise_21 : decode cX7_wise 21 = .ok (.iconst 0, 1) := by decide +kernel
theorem dX7_wise_22 : decode cX7_wise 22 = .ok (.invokevirtual 109, 3) := by decide +kernel
theorem dX7_wise_25 : decode cX7_wise 25 = .ok (.ireturn, 1) := by decide +kernel
theorem dX7_wise_26 : decode cX7_wise 26 = .ok (.aload_n 0, 1) := by decide +kernel
theorem dX7_wise_27 : decode cX7_wise 27 = .ok (.getfield 7, 3) := by decide +kernel
theorem dX7_wise_30 : decode cX7_wise 30 = .ok (.aload_n 0, 1) := by decide +kernel
theorem dX7_wise_31 : decode cX7_wise 31 = .ok (.getfield 16, 3) := by decide +kernel
theorem dX7_wise_34 : decode cX7_wise 34 = .ok (.invokestatic 146, 3) := by decide +kernel
theorem dX7_wise_37 : decode cX7_wise 37 = .ok (.iconst 0, 1) := by decide +kernel
theorem dX7_wise_38 : decode cX7_wise 38 = .ok (.istore_n 3, 1) := by decide +kernel
theorem dX7_wise_39 : decode cX7_wise 39 = .ok (.iload_n 3, 1) := by decide +kernel
theorem dX7_wise_40 : decode cX7_wise 40 = .ok (.sipush 200, 3) := by decide +kernel
theorem dX7_wise_43 : decode cX7_wise 43 = .ok (.if_icmp .ge 26, 3) := by decide +kernel
theorem dX7_wise_46 : decode cX7_wise 46 = .ok (.aload_n 0, 1) := by decide +kernel
theorem dX7_wise_47 : decode cX7_wise 47 = .ok (.iload_n 1, 1) := by decide +kernel
theorem dX7_wise_48 : decode cX7_wise 48 = .ok (.iconst 3, 1) := by decide +kernel
theorem dX7_wise_49 : decode cX7_wise 49 = .ok (.invokevirtual 54, 3) := by decide +kernel
theorem dX7_wise_52 : decode cX7_wise 52 = .ok (.invokestatic 58, 3) := by decide +kernel
theorem dX7_wise_55 : decode cX7_wise 55 = .ok (.iload_n 2, 1) := by decide +kernel
theorem dX7_wise_56 : decode cX7_wise 56 = .ok (.if_icmp .ge 13, 3) := by decide +kernel
theorem dX7_wise_59 : decode cX7_wise 59 = .ok (.aload_n 0, 1) := by decide +kernel
theorem dX7_wise_60 : decode cX7_wise 60 = .ok (.invokevirtual 98, 3) := by decide +kernel
theorem dX7_wise_63 : decode cX7_wise 63 = .ok (.iinc 3 1, 3) := by decide +kernel
theorem dX7_wise_66 : decode cX7_wise 66 = .ok (.goto (-27), 3) := by decide +kernel
theorem dX7_wise_69 : decode cX7_wise 69 = .ok (.aload_n 0, 1) := by decide +kernel
theorem dX7_wise_70 : decode cX7_wise 70 = .ok (.iload_n 1, 1) := by decide +kernel
theorem dX7_wise_71 : decode cX7_wise 71 = .ok (.iconst 3, 1) := by decide +kernel
theorem dX7_wise_72 : decode cX7_wise 72 = .ok (.invokevirtual 54, 3) := by decide +kernel
theorem dX7_wise_75 : decode cX7_wise 75 = .ok (.invokestatic 58, 3) := by decide +kernel
theorem dX7_wise_78 : decode cX7_wise 78 = .ok (.iload_n 2, 1) := by decide +kernel
theorem dX7_wise_79 : decode cX7_wise 79 = .ok (.if_icmp .lt 7, 3) := by decide +kernel
theorem dX7_wise_82 : decode cX7_wise 82 = .ok (.iconst 1, 1) := by decide +kernel
theorem dX7_wise_83 : decode cX7_wise 83 = .ok (.goto 4, 3) := by decide +kernel
theorem dX7_wise_86 : decode cX7_wise 86 = .ok (.iconst 0, 1) := by decide +kernel
theorem dX7_wise_87 : decode cX7_wise 87 = .ok (.istore 4, 2) := by decide +kernel
theorem dX7_wise_89 : decode cX7_wise 89 = .ok (.aload_n 0, 1) := by decide +kernel
theorem dX7_wise_90 : decode cX7_wise 90 = .ok (.getfield 16, 3) := by decide +kernel
theorem dX7_wise_93 : decode cX7_wise 93 = .ok (.aload_n 0, 1) := by decide +kernel
theorem dX7_wise_94 : decode cX7_wise 94 = .ok (.getfield 7, 3) := by decide +kernel
theorem dX7_wise_97 : decode cX7_wise 97 = .ok (.invokestatic 146, 3) := by decide +kernel
theorem dX7_wise_100 : decode cX7_wise 100 = .ok (.iload 4, 2) := by decide +kernel
theorem dX7_wise_102 : decode cX7_wise 102 = .ok (.ifCond .eq 7, 3) := by decide +kernel
theorem dX7_wise_105 : decode cX7_wise 105 = .ok (.iload_n 3, 1) := by decide +kernel
theorem dX7_wise_106 : decode cX7_wise 106 = .ok (.goto 8, 3) := by decide +kernel
theorem dX7_wise_109 : decode cX7_wise 109 = .ok (.aload_n 0, 1) := by decide +kernel
theorem dX7_wise_110 : decode cX7_wise 110 = .ok (.iconst 3, 1) := by decide +kernel
theorem dX7_wise_111 : decode cX7_wise 111 = .ok (.invokevirtual 109, 3) := by decide +kernel
theorem dX7_wise_114 : decode cX7_wise 114 = .ok (.ireturn, 1) := by decide +kernel
theorem dX7_when_0 : decode cX7_when 0 = .ok (.aload_n 0, 1) := by decide +kernel
theorem dX7_when_1 : decode cX7_when 1 = .ok (.iload_n 1, 1) := by decide +kernel
theorem dX7_when_2 : decode cX7_when 2 = .ok (.invokevirtual 123, 3) := by decide +kernel
theorem dX7_when_5 : decode cX7_when 5 = .ok (.ifCond .eq 30, 3) := by decide +kernel
theorem dX7_when_8 : decode cX7_when 8 = .ok (.iload_n 2, 1) := by decide +kernel
theorem dX7_when_9 : decode cX7_when 9 = .ok (.i2l, 1) := by decide +kernel
theorem dX7_when_10 : decode cX7_when 10 = .ok (.lconst 0, 1) := by decide +kernel
theorem dX7_when_11 : decode cX7_when 11 = .ok (.ldc2_w 157, 3) := by decide +kernel
theorem dX7_when_14 : decode cX7_when 14 = .ok (.invokestatic 42, 3) := by decide +kernel
theorem dX7_when_17 : decode cX7_when 17 = .ok (.ifCond .eq 18, 3) := by decide +kernel
theorem dX7_when_20 : decode cX7_when 20 = .ok (.aload_n 0, 1) := by decide +kernel
theorem dX7_when_21 : decode cX7_when 21 = .ok (.bipush 20, 2) := by decide +kernel
theorem dX7_when_23 : decode cX7_when 23 = .ok (.iload_n 1, 1) := by decide +kernel
theorem dX7_when_24 : decode cX7_when 24 = .ok (.iadd, 1) := by decide +kernel
theorem dX7_when_25 : decode cX7_when 25 = .ok (.iload_n 2, 1) := by decide +kernel
theorem dX7_when_26 : decode cX7_when 26 = .ok (.sipush 999, 3) := by decide +kernel
theorem dX7_when_29 : decode cX7_when 29 = .ok (.invokevirtual 152, 3) := by decide +kernel
theorem dX7_when_32 : decode cX7_when 32 = .ok (.goto 8, 3) := by decide +kernel
theorem dX7_when_35 : decode cX7_when 35 = .ok (.aload_n 0, 1) := by decide +kernel
theorem dX7_when_36 : decode cX7_when 36 = .ok (.iconst 0, 1) := by decide +kernel
theorem dX7_when_37 : decode cX7_when 37 = .ok (.invokevirtual 109, 3) := by decide +kernel
theorem dX7_when_40 : decode cX7_when 40 = .ok (.ireturn, 1) := by decide +kernel
theorem dX7_isShort_0 : decode cX7_isShort 0 = .ok (.iload_n 0, 1) := by decide +kernel
theorem dX7_isShort_1 : decode cX7_isShort 1 = .ok (.i2l, 1) := by decide +kernel
theorem dX7_isShort_2 : decode cX7_isShort 2 = .ok (.lconst 0, 1) := by decide +kernel
theorem dX7_isShort_3 : decode cX7_isShort 3 = .ok (.ldc2_w 132, 3) := by decide +kernel
theorem dX7_isShort_6 : decode cX7_isShort 6 = .ok (.invokestatic 42, 3) := by decide +kernel
theorem dX7_isShort_9 : decode cX7_isShort 9 = .ok (.ireturn, 1) := by decide +kernel
theorem dX7_illBehind_0 : decode cX7_illBehind 0 = .ok (.aload_n 0, 1) := by decide +kernel
theorem dX7_illBehind_1 : decode cX7_illBehind 1 = .ok (.iload_n 1, 1) := by decide +kernel
theorem dX7_illBehind_2 : decode cX7_illBehind 2 = .ok (.invokevirtual 134, 3) := by decide +kernel
theorem dX7_illBehind_5 : decode cX7_illBehind 5 = .ok (.aload_n 0, 1) := by decide +kernel
theorem dX7_illBehind_6 : decode cX7_illBehind 6 = .ok (.iconst 5, 1) := by decide +kernel
theorem dX7_illBehind_7 : decode cX7_illBehind 7 = .ok (.invokevirtual 140, 3) := by decide +kernel
theorem dX7_illBehind_10 : decode cX7_illBehind 10 = .ok (.istore_n 2, 1) := by decide +kernel
theorem dX7_illBehind_11 : decode cX7_illBehind 11 = .ok (.aload_n 0, 1) := by decide +kernel
theorem dX7_illBehind_12 : decode cX7_illBehind 12 = .ok (.getfield 16, 3) := by decide +kernel
theorem dX7_illBehind_15 : decode cX7_illBehind 15 = .ok (.aload_n 0, 1) := by decide +kernel
theorem dX7_illBehind_16 : decode cX7_illBehind 16 = .ok (.getfield 7, 3) := by decide +kernel
theorem dX7_illBehind_19 : decode cX7_illBehind 19 = .ok (.invokestatic 146, 3) := by decide +kernel
theorem dX7_illBehind_22 : decode cX7_illBehind 22 = .ok (.iload_n 2, 1) := by decide +kernel
theorem dX7_illBehind_23 : decode cX7_illBehind 23 = .ok (.ireturn, 1) := by decide +kernel
theorem dX7_wordsFor_0 : decode cX7_wordsFor 0 = .ok (.iload_n 1, 1) := by decide +kernel
theorem dX7_wordsFor_1 : decode cX7_wordsFor 1 = .ok (.invokestatic 112, 3) := by decide +kernel
theorem dX7_wordsFor_4 : decode cX7_wordsFor 4 = .ok (.ifCond .eq 10, 3) := by decide +kernel
theorem dX7_wordsFor_7 : decode cX7_wordsFor 7 = .ok (.iload_n 2, 1) := by decide +kernel
theorem dX7_wordsFor_8 : decode cX7_wordsFor 8 = .ok (.invokestatic 159, 3) := by decide +kernel
theorem dX7_wordsFor_11 : decode cX7_wordsFor 11 = .ok (.ifCond .ne 9, 3) := by decide +kernel
theorem dX7_wordsFor_14 : decode cX7_wordsFor 14 = .ok (.aload_n 0, 1) := by decide +kernel
theorem dX7_wordsFor_15 : decode cX7_wordsFor 15 = .ok (.iconst 0, 1) := by decide +kernel
theorem dX7_wordsFor_16 : decode cX7_wordsFor 16 = .ok (.invokevirtual 109, 3) := by decide +kernel
theorem dX7_wordsFor_19 : decode cX7_wordsFor 19 = .ok (.ireturn, 1) := by decide +kernel
theorem dX7_wordsFor_20 : decode cX7_wordsFor 20 = .ok (.aload_n 0, 1) := by decide +kernel
theorem dX7_wordsFor_21 : decode cX7_wordsFor 21 = .ok (.getfield 7, 3) := by decide +kernel
theorem dX7_wordsFor_24 : decode cX7_wordsFor 24 = .ok (.aload_n 0, 1) := by decide +kernel
theorem dX7_wordsFor_25 : decode cX7_wordsFor 25 = .ok (.getfield 16, 3) := by decide +kernel
theorem dX7_wordsFor_28 : decode cX7_wordsFor 28 = .ok (.invokestatic 146, 3) := by decide +kernel
theorem dX7_wordsFor_31 : decode cX7_wordsFor 31 = .ok (.aload_n 0, 1) := by decide +kernel
theorem dX7_wordsFor_32 : decode cX7_wordsFor 32 = .ok (.getfield 7, 3) := by decide +kernel
theorem dX7_wordsFor_35 : decode cX7_wordsFor 35 = .ok (.bipush 6, 2) := by decide +kernel
theorem dX7_wordsFor_37 : decode cX7_wordsFor 37 = .ok (.iload_n 1, 1) := by decide +kernel
theorem dX7_wordsFor_38 : decode cX7_wordsFor 38 = .ok (.iadd, 1) := by decide +kernel
theorem dX7_wordsFor_39 : decode cX7_wordsFor 39 = .ok (.iaload, 1) := by decide +kernel
theorem dX7_wordsFor_40 : decode cX7_wordsFor 40 = .ok (.bipush 100, 2) := by decide +kernel
theorem dX7_wordsFor_42 : decode cX7_wordsFor 42 = .ok (.idiv, 1) := by decide +kernel
theorem dX7_wordsFor_43 : decode cX7_wordsFor 43 = .ok (.istore_n 3, 1) := by decide +kernel
theorem dX7_wordsFor_44 : decode cX7_wordsFor 44 = .ok (.bipush 40, 2) := by decide +kernel
theorem dX7_wordsFor_46 : decode cX7_wordsFor 46 = .ok (.istore 4, 2) := by decide +kernel
theorem dX7_wordsFor_48 : decode cX7_wordsFor 48 = .ok (.iload 4, 2) := by decide +kernel
theorem dX7_wordsFor_50 : decode cX7_wordsFor 50 = .ok (.ifCond .lt 41, 3) := by decide +kernel
theorem dX7_wordsFor_53 : decode cX7_wordsFor 53 = .ok (.aload_n 0, 1) := by decide +kernel
theorem dX7_wordsFor_54 : decode cX7_wordsFor 54 = .ok (.getfield 7, 3) := by decide +kernel
theorem dX7_wordsFor_57 : decode cX7_wordsFor 57 = .ok (.bipush 6, 2) := by decide +kernel
theorem dX7_wordsFor_59 : decode cX7_wordsFor 59 = .ok (.iload_n 1, 1) := by decide +kernel
theorem dX7_wordsFor_60 : decode cX7_wordsFor 60 = .ok (.iadd, 1) := by decide +kernel
theorem dX7_wordsFor_61 : decode cX7_wordsFor 61 = .ok (.bipush 100, 2) := by decide +kernel
theorem dX7_wordsFor_63 : decode cX7_wordsFor 63 = .ok (.iload_n 3, 1) := by decide +kernel
theorem dX7_wordsFor_64 : decode cX7_wordsFor 64 = .ok (.imul, 1) := by decide +kernel
theorem dX7_wordsFor_65 : decode cX7_wordsFor 65 = .ok (.iload 4, 2) := by decide +kernel
theorem dX7_wordsFor_67 : decode cX7_wordsFor 67 = .ok (.iadd, 1) := by decide +kernel
theorem dX7_wordsFor_68 : decode cX7_wordsFor 68 = .ok (.iastore, 1) := by decide +kernel
theorem dX7_wordsFor_69 : decode cX7_wordsFor 69 = .ok (.aload_n 0, 1) := by decide +kernel
theorem dX7_wordsFor_70 : decode cX7_wordsFor 70 = .ok (.iload_n 2, 1) := by decide +kernel
theorem dX7_wordsFor_71 : decode cX7_wordsFor 71 = .ok (.invokevirtual 162, 3) := by decide +kernel
theorem dX7_wordsFor_74 : decode cX7_wordsFor 74 = .ok (.aload_n 0, 1) := by decide +kernel
theorem dX7_wordsFor_75 : decode cX7_wordsFor 75 = .ok (.iconst 5, 1) := by decide +kernel
theorem dX7_wordsFor_76 : decode cX7_wordsFor 76 = .ok (.invokevirtual 140, 3) := by decide +kernel
theorem dX7_wordsFor_79 : decode cX7_wordsFor 79 = .ok (.if_icmp .ne 6, 3) := by decide +kernel
theorem dX7_wordsFor_82 : decode cX7_wordsFor 82 = .ok (.iload 4, 2) := by decide +kernel
theorem dX7_wordsFor_84 : decode cX7_wordsFor 84 = .ok (.ireturn, 1) := by decide +kernel
theorem dX7_wordsFor_85 : decode cX7_wordsFor 85 = .ok (.iinc 4 (-1), 3) := by decide +kernel
theorem dX7_wordsFor_88 : decode cX7_wordsFor 88 = .ok (.goto (-40), 3) := by decide +kernel
theorem dX7_wordsFor_91 : decode cX7_wordsFor 91 = .ok (.aload_n 0, 1) := by decide +kernel
theorem dX7_wordsFor_92 : decode cX7_wordsFor 92 = .ok (.iconst 3, 1) := by decide +kernel
theorem dX7_wordsFor_93 : decode cX7_wordsFor 93 = .ok (.invokevirtual 109, 3) := by decide +kernel
theorem dX7_wordsFor_96 : decode cX7_wordsFor 96 = .ok (.ireturn, 1) := by decide +kernel
theorem dX7_waterFor_0 : decode cX7_waterFor 0 = .ok (.iload_n 1, 1) := by decide +kernel
theorem dX7_waterFor_1 : decode cX7_waterFor 1 = .ok (.invokestatic 159, 3) := by decide +kernel
theorem dX7_waterFor_4 : decode cX7_waterFor 4 = .ok (.ifCond .ne 9, 3) := by decide +kernel
theorem dX7_waterFor_7 : decode cX7_waterFor 7 = .ok (.aload_n 0, 1) := by decide +kernel
theorem dX7_waterFor_8 : decode cX7_waterFor 8 = .ok (.iconst 0, 1) := by decide +kernel
theorem dX7_waterFor_9 : decode cX7_waterFor 9 = .ok (.invokevirtual 109, 3) := by decide +kernel
theorem dX7_waterFor_12 : decode cX7_waterFor 12 = .ok (.ireturn, 1) := by decide +kernel
theorem dX7_waterFor_13 : decode cX7_waterFor 13 = .ok (.aload_n 0, 1) := by decide +kernel
theorem dX7_waterFor_14 : decode cX7_waterFor 14 = .ok (.getfield 7, 3) := by decide +kernel
theorem dX7_waterFor_17 : decode cX7_waterFor 17 = .ok (.aload_n 0, 1) := by decide +kernel
theorem dX7_waterFor_18 : decode cX7_waterFor 18 = .ok (.getfield 16, 3) := by decide +kernel
theorem dX7_waterFor_21 : decode cX7_waterFor 21 = .ok (.invokestatic 146, 3) := by decide +kernel
theorem dX7_waterFor_24 : decode cX7_waterFor 24 = .ok (.iconst 0, 1) := by decide +kernel
theorem dX7_waterFor_25 : decode cX7_waterFor 25 = .ok (.istore_n 2, 1) := by decide +kernel
theorem dX7_waterFor_26 : decode cX7_waterFor 26 = .ok (.iload_n 2, 1) := by decide +kernel
theorem dX7_waterFor_27 : decode cX7_waterFor 27 = .ok (.bipush 10, 2) := by decide +kernel
theorem dX7_waterFor_29 : decode cX7_waterFor 29 = .ok (.if_icmp .ge 33, 3) := by decide +kernel
theorem dX7_waterFor_32 : decode cX7_waterFor 32 = .ok (.aload_n 0, 1) := by decide +kernel
theorem dX7_waterFor_33 : decode cX7_waterFor 33 = .ok (.getfield 7, 3) := by decide +kernel
theorem dX7_waterFor_36 : decode cX7_waterFor 36 = .ok (.iconst 3, 1) := by decide +kernel
theorem dX7_waterFor_37 : decode cX7_waterFor 37 = .ok (.iload_n 2, 1) := by decide +kernel
theorem dX7_waterFor_38 : decode cX7_waterFor 38 = .ok (.iastore, 1) := by decide +kernel
theorem dX7_waterFor_39 : decode cX7_waterFor 39 = .ok (.aload_n 0, 1) := by decide +kernel
theorem dX7_waterFor_40 : decode cX7_waterFor 40 = .ok (.iload_n 1, 1) := by decide +kernel
theorem dX7_waterFor_41 : decode cX7_waterFor 41 = .ok (.iconst 4, 1) := by decide +kernel
theorem dX7_waterFor_42 : decode cX7_waterFor 42 = .ok (.invokevirtual 165, 3) := by decide +kernel
theorem dX7_waterFor_45 : decode cX7_waterFor 45 = .ok (.aload_n 0, 1) := by decide +kernel
theorem dX7_waterFor_46 : decode cX7_waterFor 46 = .ok (.getfield 7, 3) := by decide +kernel
theorem dX7_waterFor_49 : decode cX7_waterFor 49 = .ok (.iconst 4, 1) := by decide +kernel
theorem dX7_waterFor_50 : decode cX7_waterFor 50 = .ok (.iaload, 1) := by decide +kernel
theorem dX7_waterFor_51 : decode cX7_waterFor 51 = .ok (.if_icmp .ne 5, 3) := by decide +kernel
theorem dX7_waterFor_54 : decode cX7_waterFor 54 = .ok (.iload_n 2, 1) := by decide +kernel
theorem dX7_waterFor_55 : decode cX7_waterFor 55 = .ok (.ireturn, 1) := by decide +kernel
theorem dX7_waterFor_56 : decode cX7_waterFor 56 = .ok (.iinc 2 1, 3) := by decide +kernel
theorem dX7_waterFor_59 : decode cX7_waterFor 59 = .ok (.goto (-33), 3) := by decide +kernel
theorem dX7_waterFor_62 : decode cX7_waterFor 62 = .ok (.aload_n 0, 1) := by decide +kernel
theorem dX7_waterFor_63 : decode cX7_waterFor 63 = .ok (.iconst 3, 1) := by decide +kernel
theorem dX7_waterFor_64 : decode cX7_waterFor 64 = .ok (.invokevirtual 109, 3) := by decide +kernel
theorem dX7_waterFor_67 : decode cX7_waterFor 67 = .ok (.ireturn, 1) := by decide +kernel
theorem dX7_spare_0 : decode cX7_spare 0 = .ok (.aload_n 0, 1) := by decide +kernel
theorem dX7_spare_1 : decode cX7_spare 1 = .ok (.iload_n 1, 1) := by decide +kernel
theorem dX7_spare_2 : decode cX7_spare 2 = .ok (.invokevirtual 123, 3) := by decide +kernel
theorem dX7_spare_5 : decode cX7_spare 5 = .ok (.ifCond .eq 10, 3) := by decide +kernel
theorem dX7_spare_8 : decode cX7_spare 8 = .ok (.iload_n 2, 1) := by decide +kernel
theorem dX7_spare_9 : decode cX7_spare 9 = .ok (.invokestatic 159, 3) := by decide +kernel
theorem dX7_spare_12 : decode cX7_spare 12 = .ok (.ifCond .ne 9, 3) := by decide +kernel
theorem dX7_spare_15 : decode cX7_spare 15 = .ok (.aload_n 0, 1) := by decide +kernel
theorem dX7_spare_16 : decode cX7_spare 16 = .ok (.iconst 0, 1) := by decide +kernel
theorem dX7_spare_17 : decode cX7_spare 17 = .ok (.invokevirtual 109, 3) := by decide +kernel
theorem dX7_spare_20 : decode cX7_spare 20 = .ok (.ireturn, 1) := by decide +kernel
theorem dX7_spare_21 : decode cX7_spare 21 = .ok (.aload_n 0, 1) := by decide +kernel
theorem dX7_spare_22 : decode cX7_spare 22 = .ok (.getfield 7, 3) := by decide +kernel
theorem dX7_spare_25 : decode cX7_spare 25 = .ok (.aload_n 0, 1) := by decide +kernel
theorem dX7_spare_26 : decode cX7_spare 26 = .ok (.getfield 16, 3) := by decide +kernel
theorem dX7_spare_29 : decode cX7_spare 29 = .ok (.invokestatic 146, 3) := by decide +kernel
theorem dX7_spare_32 : decode cX7_spare 32 = .ok (.iconst 0, 1) := by decide +kernel
theorem dX7_spare_33 : decode cX7_spare 33 = .ok (.istore_n 3, 1) := by decide +kernel
theorem dX7_spare_34 : decode cX7_spare 34 = .ok (.sipush 1000, 3) := by decide +kernel
theorem dX7_spare_37 : decode cX7_spare 37 = .ok (.istore 4, 2) := by decide +kernel
theorem dX7_spare_39 : decode cX7_spare 39 = .ok (.iconst 0, 1) := by decide +kernel
theorem dX7_spare_40 : decode cX7_spare 40 = .ok (.istore 5, 2) := by decide +kernel
theorem dX7_spare_42 : decode cX7_spare 42 = .ok (.iload 5, 2) := by decide +kernel
theorem dX7_spare_44 : decode cX7_spare 44 = .ok (.bipush 8, 2) := by decide +kernel
theorem dX7_spare_46 : decode cX7_spare 46 = .ok (.if_icmp .ge 53, 3) := by decide +kernel
theorem dX7_spare_49 : decode cX7_spare 49 = .ok (.aload_n 0, 1) := by decide +kernel
theorem dX7_spare_50 : decode cX7_spare 50 = .ok (.iload_n 1, 1) := by decide +kernel
theorem dX7_spare_51 : decode cX7_spare 51 = .ok (.iconst 2, 1) := by decide +kernel
theorem dX7_spare_52 : decode cX7_spare 52 = .ok (.aload_n 0, 1) := by decide +kernel
theorem dX7_spare_53 : decode cX7_spare 53 = .ok (.iload_n 1, 1) := by decide +kernel
theorem dX7_spare_54 : decode cX7_spare 54 = .ok (.iconst 2, 1) := by decide +kernel
theorem dX7_spare_55 : decode cX7_spare 55 = .ok (.invokevirtual 54, 3) := by decide +kernel
theorem dX7_spare_58 : decode cX7_spare 58 = .ok (.iconst 1, 1) := by decide +kernel
theorem dX7_spare_59 : decode cX7_spare 59 = .ok (.iload 5, 2) := by decide +kernel
theorem dX7_spare_61 : decode cX7_spare 61 = .ok (.ishl, 1) := by decide +kernel
theorem dX7_spare_62 : decode cX7_spare 62 = .ok (.iconst (-1), 1) := by decide +kernel
theorem dX7_spare_63 : decode cX7_spare 63 = .ok (.ixor, 1) := by decide +kernel
theorem dX7_spare_64 : decode cX7_spare 64 = .ok (.iand, 1) := by decide +kernel
theorem dX7_spare_65 : decode cX7_spare 65 = .ok (.invokevirtual 79, 3) := by decide +kernel
theorem dX7_spare_68 : decode cX7_spare 68 = .ok (.aload_n 0, 1) := by decide +kernel
theorem dX7_spare_69 : decode cX7_spare 69 = .ok (.iload_n 2, 1) := by decide +kernel
theorem dX7_spare_70 : decode cX7_spare 70 = .ok (.bipush 20, 2) := by decide +kernel
theorem dX7_spare_72 : decode cX7_spare 72 = .ok (.iload_n 1, 1) := by decide +kernel
theorem dX7_spare_73 : decode cX7_spare 73 = .ok (.iadd, 1) := by decide +kernel
theorem dX7_spare_74 : decode cX7_spare 74 = .ok (.invokevirtual 165, 3) := by decide +kernel
theorem dX7_spare_77 : decode cX7_spare 77 = .ok (.istore 6, 2) := by decide +kernel
theorem dX7_spare_79 : decode cX7_spare 79 = .ok (.iload 6, 2) := by decide +kernel
theorem dX7_spare_81 : decode cX7_spare 81 = .ok (.iload 4, 2) := by decide +kernel
theorem dX7_spare_83 : decode cX7_spare 83 = .ok (.if_icmp .ge 10, 3) := by decide +kernel
theorem dX7_spare_86 : decode cX7_spare 86 = .ok (.iload 5, 2) := by decide +kernel
theorem dX7_spare_88 : decode cX7_spare 88 = .ok (.istore_n 3, 1) := by decide +kernel
theorem dX7_spare_89 : decode cX7_spare 89 = .ok (.iload 6, 2) := by decide +kernel
theorem dX7_spare_91 : decode cX7_spare 91 = .ok (.istore 4, 2) := by decide +kernel
theorem dX7_spare_93 : decode cX7_spare 93 = .ok (.iinc 5 1, 3) := by decide +kernel
theorem dX7_spare_96 : decode cX7_spare 96 = .ok (.goto (-54), 3) := by decide +kernel
theorem dX7_spare_99 : decode cX7_spare 99 = .ok (.iload_n 3, 1) := by decide +kernel
theorem dX7_spare_100 : decode cX7_spare 100 = .ok (.ireturn, 1) := by decide +kernel
theorem dX7_kindFor_0 : decode cX7_kindFor 0 = .ok (.aload_n 0, 1) := by decide +kernel
theorem dX7_kindFor_1 : decode cX7_kindFor 1 = .ok (.iload_n 1, 1) := by decide +kernel
theorem dX7_kindFor_2 : decode cX7_kindFor 2 = .ok (.invokevirtual 123, 3) := by decide +kernel
theorem dX7_kindFor_5 : decode cX7_kindFor 5 = .ok (.ifCond .eq 10, 3) := by decide +kernel
theorem dX7_kindFor_8 : decode cX7_kindFor 8 = .ok (.iload_n 2, 1) := by decide +kernel
theorem dX7_kindFor_9 : decode cX7_kindFor 9 = .ok (.invokestatic 159, 3) := by decide +kernel
theorem dX7_kindFor_12 : decode cX7_kindFor 12 = .ok (.ifCond .ne 9, 3) := by decide +kernel
theorem dX7_kindFor_15 : decode cX7_kindFor 15 = .ok (.aload_n 0, 1) := by decide +kernel
theorem dX7_kindFor_16 : decode cX7_kindFor 16 = .ok (.iconst 0, 1) := by decide +kernel
theorem dX7_kindFor_17 : decode cX7_kindFor 17 = .ok (.invokevirtual 109, 3) := by decide +kernel
theorem dX7_kindFor_20 : decode cX7_kindFor 20 = .ok (.ireturn, 1) := by decide +kernel
theorem dX7_kindFor_21 : decode cX7_kindFor 21 = .ok (.aload_n 0, 1) := by decide +kernel
theorem dX7_kindFor_22 : decode cX7_kindFor 22 = .ok (.getfield 7, 3) := by decide +kernel
theorem dX7_kindFor_25 : decode cX7_kindFor 25 = .ok (.aload_n 0, 1) := by decide +kernel
theorem dX7_kindFor_26 : decode cX7_kindFor 26 = .ok (.getfield 16, 3) := by decide +kernel
theorem dX7_kindFor_29 : decode cX7_kindFor 29 = .ok (.invokestatic 146, 3) := by decide +kernel
theorem dX7_kindFor_32 : decode cX7_kindFor 32 = .ok (.iconst 0, 1) := by decide +kernel
theorem dX7_kindFor_33 : decode cX7_kindFor 33 = .ok (.istore_n 3, 1) := by decide +kernel
theorem dX7_kindFor_34 : decode cX7_kindFor 34 = .ok (.ldc 168, 2) := by decide +kernel
theorem dX7_kindFor_36 : decode cX7_kindFor 36 = .ok (.istore 4, 2) := by decide +kernel
theorem dX7_kindFor_38 : decode cX7_kindFor 38 = .ok (.iconst 0, 1) := by decide +kernel
theorem dX7_kindFor_39 : decode cX7_kindFor 39 = .ok (.istore 5, 2) := by decide +kernel
theorem dX7_kindFor_41 : decode cX7_kindFor 41 = .ok (.iload 5, 2) := by decide +kernel
theorem dX7_kindFor_43 : decode cX7_kindFor 43 = .ok (.bipush 7, 2) := by decide +kernel
theorem dX7_kindFor_45 : decode cX7_kindFor 45 = .ok (.if_icmp .ge 38, 3) := by decide +kernel
theorem dX7_kindFor_48 : decode cX7_kindFor 48 = .ok (.aload_n 0, 1) := by decide +kernel
theorem dX7_kindFor_49 : decode cX7_kindFor 49 = .ok (.iload_n 1, 1) := by decide +kernel
theorem dX7_kindFor_50 : decode cX7_kindFor 50 = .ok (.iconst 0, 1) := by decide +kernel
theorem dX7_kindFor_51 : decode cX7_kindFor 51 = .ok (.iload 5, 2) := by decide +kernel
theorem dX7_kindFor_53 : decode cX7_kindFor 53 = .ok (.invokevirtual 79, 3) := by decide +kernel
theorem dX7_kindFor_56 : decode cX7_kindFor 56 = .ok (.aload_n 0, 1) := by decide +kernel
theorem dX7_kindFor_57 : decode cX7_kindFor 57 = .ok (.iload_n 2, 1) := by decide +kernel
theorem dX7_kindFor_58 : decode cX7_kindFor 58 = .ok (.invokevirtual 162, 3) := by decide +kernel
theorem dX7_kindFor_61 : decode cX7_kindFor 61 = .ok (.istore 6, 2) := by decide +kernel
theorem dX7_kindFor_63 : decode cX7_kindFor 63 = .ok (.iload 6, 2) := by decide +kernel
theorem dX7_kindFor_65 : decode cX7_kindFor 65 = .ok (.iload 4, 2) := by decide +kernel
theorem dX7_kindFor_67 : decode cX7_kindFor 67 = .ok (.if_icmp .ge 10, 3) := by decide +kernel
theorem dX7_kindFor_70 : decode cX7_kindFor 70 = .ok (.iload 5, 2) := by decide +kernel
theorem dX7_kindFor_72 : decode cX7_kindFor 72 = .ok (.istore_n 3, 1) := by decide +kernel
theorem dX7_kindFor_73 : decode cX7_kindFor 73 = .ok (.iload 6, 2) := by decide +kernel
theorem dX7_kindFor_75 : decode cX7_kindFor 75 = .ok (.istore 4, 2) := by decide +kernel
theorem dX7_kindFor_77 : decode cX7_kindFor 77 = .ok (.iinc 5 1, 3) := by decide +kernel
theorem dX7_kindFor_80 : decode cX7_kindFor 80 = .ok (.goto (-39), 3) := by decide +kernel
theorem dX7_kindFor_83 : decode cX7_kindFor 83 = .ok (.iload_n 3, 1) := by decide +kernel
theorem dX7_kindFor_84 : decode cX7_kindFor 84 = .ok (.ireturn, 1) := by decide +kernel
theorem dX7_fast_0 : decode cX7_fast 0 = .ok (.iload_n 1, 1) := by decide +kernel
theorem dX7_fast_1 : decode cX7_fast 1 = .ok (.i2l, 1) := by decide +kernel
theorem dX7_fast_2 : decode cX7_fast 2 = .ok (.lconst 0, 1) := by decide +kernel
theorem dX7_fast_3 : decode cX7_fast 3 = .ok (.ldc2_w 169, 3) := by decide +kernel
theorem dX7_fast_6 : decode cX7_fast 6 = .ok (.invokestatic 42, 3) := by decide +kernel
theorem dX7_fast_9 : decode cX7_fast 9 = .ok (.ifCond .ne 9, 3) := by decide +kernel
theorem dX7_fast_12 : decode cX7_fast 12 = .ok (.aload_n 0, 1) := by decide +kernel
theorem dX7_fast_13 : decode cX7_fast 13 = .ok (.iconst 0, 1) := by decide +kernel
theorem dX7_fast_14 : decode cX7_fast 14 = .ok (.invokevirtual 109, 3) := by decide +kernel
theorem dX7_fast_17 : decode cX7_fast 17 = .ok (.ireturn, 1) := by decide +kernel
theorem dX7_fast_18 : decode cX7_fast 18 = .ok (.aload_n 0, 1) := by decide +kernel
theorem dX7_fast_19 : decode cX7_fast 19 = .ok (.getfield 7, 3) := by decide +kernel
theorem dX7_fast_22 : decode cX7_fast 22 = .ok (.aload_n 0, 1) := by decide +kernel
theorem dX7_fast_23 : decode cX7_fast 23 = .ok (.getfield 16, 3) := by decide +kernel
theorem dX7_fast_26 : decode cX7_fast 26 = .ok (.invokestatic 146, 3) := by decide +kernel
theorem dX7_fast_29 : decode cX7_fast 29 = .ok (.iconst (-1), 1) := by decide +kernel
theorem dX7_fast_30 : decode cX7_fast 30 = .ok (.istore_n 2, 1) := by decide +kernel
theorem dX7_fast_31 : decode cX7_fast 31 = .ok (.iconst 0, 1) := by decide +kernel
theorem dX7_fast_32 : decode cX7_fast 32 = .ok (.istore_n 3, 1) := by decide +kernel
theorem dX7_fast_33 : decode cX7_fast 33 = .ok (.iload_n 3, 1) := by decide +kernel
theorem dX7_fast_34 : decode cX7_fast 34 = .ok (.iconst 1, 1) := by decide +kernel
theorem dX7_fast_35 : decode cX7_fast 35 = .ok (.aload_n 0, 1) := by decide +kernel
theorem dX7_fast_36 : decode cX7_fast 36 = .ok (.getfield 7, 3) := by decide +kernel
theorem dX7_fast_39 : decode cX7_fast 39 = .ok (.iconst 0, 1) := by decide +kernel
theorem dX7_fast_40 : decode cX7_fast 40 = .ok (.iaload, 1) := by decide +kernel
theorem dX7_fast_41 : decode cX7_fast 41 = .ok (.ishl, 1) := by decide +kernel
theorem dX7_fast_42 : decode cX7_fast 42 = .ok (.if_icmp .ge 96, 3) := by decide +kernel
theorem dX7_fast_45 : decode cX7_fast 45 = .ok (.iload_n 2, 1) := by decide +kernel
theorem dX7_fast_46 : decode cX7_fast 46 = .ok (.ifCond .lt 17, 3) := by decide +kernel
theorem dX7_fast_49 : decode cX7_fast 49 = .ok (.iload_n 3, 1) := by decide +kernel
theorem dX7_fast_50 : decode cX7_fast 50 = .ok (.invokestatic 58, 3) := by decide +kernel
theorem dX7_fast_53 : decode cX7_fast 53 = .ok (.iload_n 2, 1) := by decide +kernel
theorem dX7_fast_54 : decode cX7_fast 54 = .ok (.invokestatic 58, 3) := by decide +kernel
theorem dX7_fast_57 : decode cX7_fast 57 = .ok (.if_icmp .lt 6, 3) := by decide +kernel
theorem dX7_fast_60 : decode cX7_fast 60 = .ok (.goto 72, 3) := by decide +kernel
theorem dX7_fast_63 : decode cX7_fast 63 = .ok (.iconst 0, 1) := by decide +kernel
theorem dX7_fast_64 : decode cX7_fast 64 = .ok (.istore 4, 2) := by decide +kernel
theorem dX7_fast_66 : decode cX7_fast 66 = .ok (.iload 4, 2) := by decide +kernel
theorem dX7_fast_68 : decode cX7_fast 68 = .ok (.aload_n 0, 1) := by decide +kernel
theorem dX7_fast_69 : decode cX7_fast 69 = .ok (.getfield 7, 3) := by decide +kernel
theorem dX7_fast_72 : decode cX7_fast 72 = .ok (.iconst 0, 1) := by decide +kernel
theorem dX7_fast_73 : decode cX7_fast 73 = .ok (.iaload, 1) := by decide +kernel
theorem dX7_fast_74 : decode cX7_fast 74 = .ok (.if_icmp .ge 37, 3) := by decide +kernel
theorem dX7_fast_77 : decode cX7_fast 77 = .ok (.aload_n 0, 1) := by decide +kernel
theorem dX7_fast_78 : decode cX7_fast 78 = .ok (.iload 4, 2) := by decide +kernel
theorem dX7_fast_80 : decode cX7_fast 80 = .ok (.iconst 2, 1) := by decide +kernel
theorem dX7_fast_81 : decode cX7_fast 81 = .ok (.iload_n 3, 1) := by decide +kernel
theorem dX7_fast_82 : decode cX7_fast 82 = .ok (.iload 4, 2) := by decide +kernel
theorem dX7_fast_84 : decode cX7_fast 84 = .ok (.ishr, 1) := by decide +kernel
theorem dX7_fast_85 : decode cX7_fast 85 = .ok (.iconst 1, 1) := by decide +kernel
theorem dX7_fast_86 : decode cX7_fast 86 = .ok (.iand, 1) := by decide +kernel
theorem dX7_fast_87 : decode cX7_fast 87 = .ok (.iconst 1, 1) := by decide +kernel
theorem dX7_fast_88 : decode cX7_fast 88 = .ok (.if_icmp .ne 7, 3) := by decide +kernel
theorem dX7_fast_91 : decode cX7_fast 91 = .ok (.iconst 0, 1) := by decide +kernel
theorem dX7_fast_92 : decode cX7_fast 92 = .ok (.goto 10, 3) := by decide +kernel
theorem dX7_fast_95 : decode cX7_fast 95 = .ok (.aload_n 0, 1) := by decide +kernel
theorem dX7_fast_96 : decode cX7_fast 96 = .ok (.iload 4, 2) := by decide +kernel
theorem dX7_fast_98 : decode cX7_fast 98 = .ok (.iconst 2, 1) := by decide +kernel
theorem dX7_fast_99 : decode cX7_fast 99 = .ok (.invokevirtual 54, 3) := by decide +kernel
theorem dX7_fast_102 : decode cX7_fast 102 = .ok (.invokevirtual 79, 3) := by decide +kernel
theorem dX7_fast_105 : decode cX7_fast 105 = .ok (.iinc 4 1, 3) := by decide +kernel
theorem dX7_fast_108 : decode cX7_fast 108 = .ok (.goto (-42), 3) := by decide +kernel
theorem dX7_fast_111 : decode cX7_fast 111 = .ok (.aload_n 0, 1) := by decide +kernel
theorem dX7_fast_112 : decode cX7_fast 112 = .ok (.iload_n 1, 1) := by decide +kernel
theorem dX7_fast_113 : decode cX7_fast 113 = .ok (.iconst 4, 1) := by decide +kernel
theorem dX7_fast_114 : decode cX7_fast 114 = .ok (.invokevirtual 165, 3) := by decide +kernel
theorem dX7_fast_117 : decode cX7_fast 117 = .ok (.aload_n 0, 1) := by decide +kernel
theorem dX7_fast_118 : decode cX7_fast 118 = .ok (.getfield 7, 3) := by decide +kernel
theorem dX7_fast_121 : decode cX7_fast 121 = .ok (.iconst 4, 1) := by decide +kernel
theorem dX7_fast_122 : decode cX7_fast 122 = .ok (.iaload, 1) := by decide +kernel
theorem dX7_fast_123 : decode cX7_fast 123 = .ok (.if_icmp .ne 7, 3) := by decide +kernel
theorem dX7_fast_126 : decode cX7_fast 126 = .ok (.iload_n 3, 1) := by decide +kernel
theorem dX7_fast_127 : decode cX7_fast 127 = .ok (.goto 4, 3) := by decide +kernel
theorem dX7_fast_130 : decode cX7_fast 130 = .ok (.iload_n 2, 1) := by decide +kernel
theorem dX7_fast_131 : decode cX7_fast 131 = .ok (.istore_n 2, 1) := by decide +kernel
theorem dX7_fast_132 : decode cX7_fast 132 = .ok (.iinc 3 1, 3) := by decide +kernel
theorem dX7_fast_135 : decode cX7_fast 135 = .ok (.goto (-102), 3) := by decide +kernel
theorem dX7_fast_138 : decode cX7_fast 138 = .ok (.iload_n 2, 1) := by decide +kernel
theorem dX7_fast_139 : decode cX7_fast 139 = .ok (.ifCond .ge 11, 3) := by decide +kernel
theorem dX7_fast_142 : decode cX7_fast 142 = .ok (.aload_n 0, 1) := by decide +kernel
theorem dX7_fast_143 : decode cX7_fast 143 = .ok (.iconst 3, 1) := by decide +kernel
theorem dX7_fast_144 : decode cX7_fast 144 = .ok (.invokevirtual 109, 3) := by decide +kernel
theorem dX7_fast_147 : decode cX7_fast 147 = .ok (.goto 4, 3) := by decide +kernel
theorem dX7_fast_150 : decode cX7_fast 150 = .ok (.iload_n 2, 1) := by decide +kernel
theorem dX7_fast_151 : decode cX7_fast 151 = .ok (.ireturn, 1) := by decide +kernel
theorem dX7_cover_0 : decode cX7_cover 0 = .ok (.iload_n 1, 1) := by decide +kernel
theorem dX7_cover_1 : decode cX7_cover 1 = .ok (.invokestatic 103, 3) := by decide +kernel
theorem dX7_cover_4 : decode cX7_cover 4 = .ok (.ifCond .ne 9, 3) := by decide +kernel
theorem dX7_cover_7 : decode cX7_cover 7 = .ok (.aload_n 0, 1) := by decide +kernel
theorem dX7_cover_8 : decode cX7_cover 8 = .ok (.iconst 0, 1) := by decide +kernel
theorem dX7_cover_9 : decode cX7_cover 9 = .ok (.invokevirtual 109, 3) := by decide +kernel
theorem dX7_cover_12 : decode cX7_cover 12 = .ok (.ireturn, 1) := by decide +kernel
theorem dX7_cover_13 : decode cX7_cover 13 = .ok (.iconst (-1), 1) := by decide +kernel
theorem dX7_cover_14 : decode cX7_cover 14 = .ok (.istore_n 2, 1) := by decide +kernel
theorem dX7_cover_15 : decode cX7_cover 15 = .ok (.iconst 0, 1) := by decide +kernel
theorem dX7_cover_16 : decode cX7_cover 16 = .ok (.istore_n 3, 1) := by decide +kernel
theorem dX7_cover_17 : decode cX7_cover 17 = .ok (.iload_n 3, 1) := by decide +kernel
theorem dX7_cover_18 : decode cX7_cover 18 = .ok (.iconst 1, 1) := by decide +kernel
theorem dX7_cover_19 : decode cX7_cover 19 = .ok (.aload_n 0, 1) := by decide +kernel
theorem dX7_cover_20 : decode cX7_cover 20 = .ok (.getfield 7, 3) := by decide +kernel
theorem dX7_cover_23 : decode cX7_cover 23 = .ok (.iconst 0, 1) := by decide +kernel
theorem dX7_cover_24 : decode cX7_cover 24 = .ok (.iaload, 1) := by decide +kernel
theorem dX7_cover_25 : decode cX7_cover 25 = .ok (.ishl, 1) := by decide +kernel
theorem dX7_cover_26 : decode cX7_cover 26 = .ok (.if_icmp .ge 86, 3) := by decide +kernel
theorem dX7_cover_29 : decode cX7_cover 29 = .ok (.iload_n 1, 1) := by decide +kernel
theorem dX7_cover_30 : decode cX7_cover 30 = .ok (.istore 4, 2) := by decide +kernel
theorem dX7_cover_32 : decode cX7_cover 32 = .ok (.iconst 0, 1) := by decide +kernel
theorem dX7_cover_33 : decode cX7_cover 33 = .ok (.istore 5, 2) := by decide +kernel
theorem dX7_cover_35 : decode cX7_cover 35 = .ok (.iload 5, 2) := by decide +kernel
theorem dX7_cover_37 : decode cX7_cover 37 = .ok (.aload_n 0, 1) := by decide +kernel
theorem dX7_cover_38 : decode cX7_cover 38 = .ok (.getfield 7, 3) := by decide +kernel
theorem dX7_cover_41 : decode cX7_cover 41 = .ok (.iconst 0, 1) := by decide +kernel
theorem dX7_cover_42 : decode cX7_cover 42 = .ok (.iaload, 1) := by decide +kernel
theorem dX7_cover_43 : decode cX7_cover 43 = .ok (.if_icmp .ge 37, 3) := by decide +kernel
theorem dX7_cover_46 : decode cX7_cover 46 = .ok (.iload 4, 2) := by decide +kernel
theorem dX7_cover_48 : decode cX7_cover 48 = .ok (.iload_n 3, 1) := by decide +kernel
theorem dX7_cover_49 : decode cX7_cover 49 = .ok (.iload 5, 2) := by decide +kernel
theorem dX7_cover_51 : decode cX7_cover 51 = .ok (.ishr, 1) := by decide +kernel
theorem dX7_cover_52 : decode cX7_cover 52 = .ok (.iconst 1, 1) := by decide +kernel
theorem dX7_cover_53 : decode cX7_cover 53 = .ok (.iand, 1) := by decide +kernel
theorem dX7_cover_54 : decode cX7_cover 54 = .ok (.iconst 1, 1) := by decide +kernel
theorem dX7_cover_55 : decode cX7_cover 55 = .ok (.if_icmp .ne 15, 3) := by decide +kernel
theorem dX7_cover_58 : decode cX7_cover 58 = .ok (.aload_n 0, 1) := by decide +kernel
theorem dX7_cover_59 : decode cX7_cover 59 = .ok (.iload 5, 2) := by decide +kernel
theorem dX7_cover_61 : decode cX7_cover 61 = .ok (.iconst 2, 1) := by decide +kernel
theorem dX7_cover_62 : decode cX7_cover 62 = .ok (.invokevirtual 54, 3) := by decide +kernel
theorem dX7_cover_65 : decode cX7_cover 65 = .ok (.iconst (-1), 1) := by decide +kernel
theorem dX7_cover_66 : decode cX7_cover 66 = .ok (.ixor, 1) := by decide +kernel
theorem dX7_cover_67 : decode cX7_cover 67 = .ok (.goto 4, 3) := by decide +kernel
theorem dX7_cover_70 : decode cX7_cover 70 = .ok (.iconst (-1), 1) := by decide +kernel
theorem dX7_cover_71 : decode cX7_cover 71 = .ok (.iand, 1) := by decide +kernel
theorem dX7_cover_72 : decode cX7_cover 72 = .ok (.istore 4, 2) := by decide +kernel
theorem dX7_cover_74 : decode cX7_cover 74 = .ok (.iinc 5 1, 3) := by decide +kernel
theorem dX7_cover_77 : decode cX7_cover 77 = .ok (.goto (-42), 3) := by decide +kernel
theorem dX7_cover_80 : decode cX7_cover 80 = .ok (.iload 4, 2) := by decide +kernel
theorem dX7_cover_82 : decode cX7_cover 82 = .ok (.ifCond .ne 22, 3) := by decide +kernel
theorem dX7_cover_85 : decode cX7_cover 85 = .ok (.iload_n 2, 1) := by decide +kernel
theorem dX7_cover_86 : decode cX7_cover 86 = .ok (.ifCond .lt 14, 3) := by decide +kernel
theorem dX7_cover_89 : decode cX7_cover 89 = .ok (.iload_n 3, 1) := by decide +kernel
theorem dX7_cover_90 : decode cX7_cover 90 = .ok (.invokestatic 58, 3) := by decide +kernel
theorem dX7_cover_93 : decode cX7_cover 93 = .ok (.iload_n 2, 1) := by decide +kernel
theorem dX7_cover_94 : decode cX7_cover 94 = .ok (.invokestatic 58, 3) := by decide +kernel
theorem dX7_cover_97 : decode cX7_cover 97 = .ok (.if_icmp .ge 7, 3) := by decide +kernel
theorem dX7_cover_100 : decode cX7_cover 100 = .ok (.iload_n 3, 1) := by decide +kernel
theorem dX7_cover_101 : decode cX7_cover 101 = .ok (.goto 4, 3) := by decide +kernel
theorem dX7_cover_104 : decode cX7_cover 104 = .ok (.iload_n 2, 1) := by decide +kernel
theorem dX7_cover_105 : decode cX7_cover 105 = .ok (.istore_n 2, 1) := by decide +kernel
theorem dX7_cover_106 : decode cX7_cover 106 = .ok (.iinc 3 1, 3) := by decide +kernel
theorem dX7_cover_109 : decode cX7_cover 109 = .ok (.goto (-92), 3) := by decide +kernel
theorem dX7_cover_112 : decode cX7_cover 112 = .ok (.iload_n 2, 1) := by decide +kernel
theorem dX7_cover_113 : decode cX7_cover 113 = .ok (.ifCond .ge 11, 3) := by decide +kernel
theorem dX7_cover_116 : decode cX7_cover 116 = .ok (.aload_n 0, 1) := by decide +kernel
theorem dX7_cover_117 : decode cX7_cover 117 = .ok (.iconst 3, 1) := by decide +kernel
theorem dX7_cover_118 : decode cX7_cover 118 = .ok (.invokevirtual 109, 3) := by decide +kernel
theorem dX7_cover_121 : decode cX7_cover 121 = .ok (.goto 4, 3) := by decide +kernel
theorem dX7_cover_124 : decode cX7_cover 124 = .ok (.iload_n 2, 1) := by decide +kernel
theorem dX7_cover_125 : decode cX7_cover 125 = .ok (.ireturn, 1) := by decide +kernel
theorem dX7_whyNot_0 : decode cX7_whyNot 0 = .ok (.aload_n 0, 1) := by decide +kernel
theorem dX7_whyNot_1 : decode cX7_whyNot 1 = .ok (.iload_n 1, 1) := by decide +kernel
theorem dX7_whyNot_2 : decode cX7_whyNot 2 = .ok (.invokevirtual 171, 3) := by decide +kernel
theorem dX7_whyNot_5 : decode cX7_whyNot 5 = .ok (.istore_n 3, 1) := by decide +kernel
theorem dX7_whyNot_6 : decode cX7_whyNot 6 = .ok (.iload_n 3, 1) := by decide +kernel
theorem dX7_whyNot_7 : decode cX7_whyNot 7 = .ok (.ifCond .lt 7, 3) := by decide +kernel
theorem dX7_whyNot_10 : decode cX7_whyNot 10 = .ok (.iload_n 3, 1) := by decide +kernel
theorem dX7_whyNot_11 : decode cX7_whyNot 11 = .ok (.goto 16, 3) := by decide +kernel
theorem dX7_whyNot_14 : decode cX7_whyNot 14 = .ok (.aload_n 0, 1) := by decide +kernel
theorem dX7_whyNot_15 : decode cX7_whyNot 15 = .ok (.iload_n 2, 1) := by decide +kernel
theorem dX7_whyNot_16 : decode cX7_whyNot 16 = .ok (.invokevirtual 123, 3) := by decide +kernel
theorem dX7_whyNot_19 : decode cX7_whyNot 19 = .ok (.ifCond .eq 7, 3) := by decide +kernel
theorem dX7_whyNot_22 : decode cX7_whyNot 22 = .ok (.iconst (-1), 1) := by decide +kernel
theorem dX7_whyNot_23 : decode cX7_whyNot 23 = .ok (.goto 4, 3) := by decide +kernel
theorem dX7_whyNot_26 : decode cX7_whyNot 26 = .ok (.iconst 0, 1) := by decide +kernel
theorem dX7_whyNot_27 : decode cX7_whyNot 27 = .ok (.ireturn, 1) := by decide +kernel
theorem dX7_isTold_0 : decode cX7_isTold 0 = .ok (.iconst 1, 1) := by decide +kernel
theorem dX7_isTold_1 : decode cX7_isTold 1 = .ok (.istore_n 3, 1) := by decide +kernel
theorem dX7_isTold_2 : decode cX7_isTold 2 = .ok (.iconst 0, 1) := by decide +kernel
theorem dX7_isTold_3 : decode cX7_isTold 3 = .ok (.istore 4, 2) := by decide +kernel
theorem dX7_isTold_5 : decode cX7_isTold 5 = .ok (.iload 4, 2) := by decide +kernel
theorem dX7_isTold_7 : decode cX7_isTold 7 = .ok (.aload_n 0, 1) := by decide +kernel
theorem dX7_isTold_8 : decode cX7_isTold 8 = .ok (.getfield 32, 3) := by decide +kernel
theorem dX7_isTold_11 : decode cX7_isTold 11 = .ok (.iload_n 1, 1) := by decide +kernel
theorem dX7_isTold_12 : decode cX7_isTold 12 = .ok (.iaload, 1) := by decide +kernel
theorem dX7_isTold_13 : decode cX7_isTold 13 = .ok (.if_icmp .ge 54, 3) := by decide +kernel
theorem dX7_isTold_16 : decode cX7_isTold 16 = .ok (.iload_n 3, 1) := by decide +kernel
theorem dX7_isTold_17 : decode cX7_isTold 17 = .ok (.ifCond .eq 50, 3) := by decide +kernel
theorem dX7_isTold_20 : decode cX7_isTold 20 = .ok (.aload_n 0, 1) := by decide +kernel
theorem dX7_isTold_21 : decode cX7_isTold 21 = .ok (.getfield 35, 3) := by decide +kernel
theorem dX7_isTold_24 : decode cX7_isTold 24 = .ok (.bipush 40, 2) := by decide +kernel
theorem dX7_isTold_26 : decode cX7_isTold 26 = .ok (.iload_n 1, 1) := by decide +kernel
theorem dX7_isTold_27 : decode cX7_isTold 27 = .ok (.imul, 1) := by decide +kernel
theorem dX7_isTold_28 : decode cX7_isTold 28 = .ok (.iload 4, 2) := by decide +kernel
theorem dX7_isTold_30 : decode cX7_isTold 30 = .ok (.iadd, 1) := by decide +kernel
theorem dX7_isTold_31 : decode cX7_isTold 31 = .ok (.iaload, 1) := by decide +kernel
theorem dX7_isTold_32 : decode cX7_isTold 32 = .ok (.istore 5, 2) := by decide +kernel
theorem dX7_isTold_34 : decode cX7_isTold 34 = .ok (.iload 5, 2) := by decide +kernel
theorem dX7_isTold_36 : decode cX7_isTold 36 = .ok (.iconst (-1), 1) := by decide +kernel
theorem dX7_isTold_37 : decode cX7_isTold 37 = .ok (.if_icmp .eq 14, 3) := by decide +kernel
theorem dX7_isTold_40 : decode cX7_isTold 40 = .ok (.iload 5, 2) := by decide +kernel
theorem dX7_isTold_42 : decode cX7_isTold 42 = .ok (.aload_n 0, 1) := by decide +kernel
theorem dX7_isTold_43 : decode cX7_isTold 43 = .ok (.iload_n 2, 1) := by decide +kernel
theorem dX7_isTold_44 : decode cX7_isTold 44 = .ok (.iconst 1, 1) := by decide +kernel
theorem dX7_isTold_45 : decode cX7_isTold 45 = .ok (.invokevirtual 54, 3) := by decide +kernel
theorem dX7_isTold_48 : decode cX7_isTold 48 = .ok (.if_icmp .ne 7, 3) := by decide +kernel
theorem dX7_isTold_51 : decode cX7_isTold 51 = .ok (.iconst 1, 1) := by decide +kernel
theorem dX7_isTold_52 : decode cX7_isTold 52 = .ok (.goto 4, 3) := by decide +kernel
theorem dX7_isTold_55 : decode cX7_isTold 55 = .ok (.iconst 0, 1) := by decide +kernel
theorem dX7_isTold_56 : decode cX7_isTold 56 = .ok (.istore_n 3, 1) := by decide +kernel
theorem dX7_isTold_57 : decode cX7_isTold 57 = .ok (.aload_n 0, 1) := by decide +kernel
theorem dX7_isTold_58 : decode cX7_isTold 58 = .ok (.invokevirtual 98, 3) := by decide +kernel
theorem dX7_isTold_61 : decode cX7_isTold 61 = .ok (.iinc 4 1, 3) := by decide +kernel
theorem dX7_isTold_64 : decode cX7_isTold 64 = .ok (.goto (-59), 3) := by decide +kernel
theorem dX7_isTold_67 : decode cX7_isTold 67 = .ok (.aload_n 0, 1) := by decide +kernel
theorem dX7_isTold_68 : decode cX7_isTold 68 = .ok (.getfield 16, 3) := by decide +kernel
theorem dX7_isTold_71 : decode cX7_isTold 71 = .ok (.aload_n 0, 1) := by decide +kernel
theorem dX7_isTold_72 : decode cX7_isTold 72 = .ok (.getfield 7, 3) := by decide +kernel
theorem dX7_isTold_75 : decode cX7_isTold 75 = .ok (.invokestatic 146, 3) := by decide +kernel
theorem dX7_isTold_78 : decode cX7_isTold 78 = .ok (.iload_n 3, 1) := by decide +kernel
theorem dX7_isTold_79 : decode cX7_isTold 79 = .ok (.ireturn, 1) := by decide +kernel
theorem dX7_isOf_0 : decode cX7_isOf 0 = .ok (.aload_n 0, 1) := by decide +kernel
theorem dX7_isOf_1 : decode cX7_isOf 1 = .ok (.getfield 7, 3) := by decide +kernel
theorem dX7_isOf_4 : decode cX7_isOf 4 = .ok (.aload_n 0, 1) := by decide +kernel
theorem dX7_isOf_5 : decode cX7_isOf 5 = .ok (.invokevirtual 83, 3) := by decide +kernel
theorem dX7_isOf_8 : decode cX7_isOf 8 = .ok (.dup2, 1) := by decide +kernel
theorem dX7_isOf_9 : decode cX7_isOf 9 = .ok (.iaload, 1) := by decide +kernel
theorem dX7_isOf_10 : decode cX7_isOf 10 = .ok (.iload_n 3, 1) := by decide +kernel
theorem dX7_isOf_11 : decode cX7_isOf 11 = .ok (.aload_n 0, 1) := by decide +kernel
theorem dX7_isOf_12 : decode cX7_isOf 12 = .ok (.getfield 7, 3) := by decide +kernel
theorem dX7_isOf_15 : decode cX7_isOf 15 = .ok (.aload_n 0, 1) := by decide +kernel
theorem dX7_isOf_16 : decode cX7_isOf 16 = .ok (.invokevirtual 83, 3) := by decide +kernel
theorem dX7_isOf_19 : decode cX7_isOf 19 = .ok (.iaload, 1) := by decide +kernel
theorem dX7_isOf_20 : decode cX7_isOf 20 = .ok (.bipush 100, 2) := by decide +kernel
theorem dX7_isOf_22 : decode cX7_isOf 22 = .ok (.irem, 1) := by decide +kernel
theorem dX7_isOf_23 : decode cX7_isOf 23 = .ok (.isub, 1) := by decide +kernel
theorem dX7_isOf_24 : decode cX7_isOf 24 = .ok (.iadd, 1) := by decide +kernel
theorem dX7_isOf_25 : decode cX7_isOf 25 = .ok (.iastore, 1) := by decide +kernel
theorem dX7_isOf_26 : decode cX7_isOf 26 = .ok (.aload_n 0, 1) := by decide +kernel
theorem dX7_isOf_27 : decode cX7_isOf 27 = .ok (.iload_n 1, 1) := by decide +kernel
theorem dX7_isOf_28 : decode cX7_isOf 28 = .ok (.iload_n 2, 1) := by decide +kernel
theorem dX7_isOf_29 : decode cX7_isOf 29 = .ok (.invokevirtual 174, 3) := by decide +kernel
theorem dX7_isOf_32 : decode cX7_isOf 32 = .ok (.ireturn, 1) := by decide +kernel
theorem dX7_fits_0 : decode cX7_fits 0 = .ok (.aload_n 0, 1) := by decide +kernel
theorem dX7_fits_1 : decode cX7_fits 1 = .ok (.iload_n 1, 1) := by decide +kernel
theorem dX7_fits_2 : decode cX7_fits 2 = .ok (.iload_n 2, 1) := by decide +kernel
theorem dX7_fits_3 : decode cX7_fits 3 = .ok (.invokevirtual 178, 3) := by decide +kernel
theorem dX7_fits_6 : decode cX7_fits 6 = .ok (.istore_n 3, 1) := by decide +kernel
theorem dX7_fits_7 : decode cX7_fits 7 = .ok (.iload_n 3, 1) := by decide +kernel
theorem dX7_fits_8 : decode cX7_fits 8 = .ok (.ifCond .lt 9, 3) := by decide +kernel
theorem dX7_fits_11 : decode cX7_fits 11 = .ok (.aload_n 0, 1) := by decide +kernel
theorem dX7_fits_12 : decode cX7_fits 12 = .ok (.iload_n 3, 1) := by decide +kernel
theorem dX7_fits_13 : decode cX7_fits 13 = .ok (.invokevirtual 109, 3) := by decide +kernel
theorem dX7_fits_16 : decode cX7_fits 16 = .ok (.ireturn, 1) := by decide +kernel
theorem dX7_fits_17 : decode cX7_fits 17 = .ok (.aload_n 0, 1) := by decide +kernel
theorem dX7_fits_18 : decode cX7_fits 18 = .ok (.getfield 7, 3) := by decide +kernel
theorem dX7_fits_21 : decode cX7_fits 21 = .ok (.aload_n 0, 1) := by decide +kernel
theorem dX7_fits_22 : decode cX7_fits 22 = .ok (.getfield 16, 3) := by decide +kernel
theorem dX7_fits_25 : decode cX7_fits 25 = .ok (.invokestatic 146, 3) := by decide +kernel
theorem dX7_fits_28 : decode cX7_fits 28 = .ok (.iconst 0, 1) := by decide +kernel
theorem dX7_fits_29 : decode cX7_fits 29 = .ok (.istore 4, 2) := by decide +kernel
theorem dX7_fits_31 : decode cX7_fits 31 = .ok (.iconst 0, 1) := by decide +kernel
theorem dX7_fits_32 : decode cX7_fits 32 = .ok (.istore 5, 2) := by decide +kernel
theorem dX7_fits_34 : decode cX7_fits 34 = .ok (.iload 5, 2) := by decide +kernel
theorem dX7_fits_36 : decode cX7_fits 36 = .ok (.bipush 40, 2) := by decide +kernel
theorem dX7_fits_38 : decode cX7_fits 38 = .ok (.if_icmp .gt 30, 3) := by decide +kernel
theorem dX7_fits_41 : decode cX7_fits 41 = .ok (.iload 4, 2) := by decide +kernel
theorem dX7_fits_43 : decode cX7_fits 43 = .ok (.aload_n 0, 1) := by decide +kernel
end
section
theorem dX7_fits_44 : decode cX7_fits 44 = .ok (.iload_n 1, 1) := by decide +kernel
theorem dX7_fits_45 : decode cX7_fits 45 = .ok (.iload_n 2, 1) := by decide +kernel
theorem dX7_fits_46 : decode cX7_fits 46 = .ok (.iload 5, 2) := by decide +kernel
theorem dX7_fits_48 : decode cX7_fits 48 = .ok (.invokevirtual 181, 3) := by decide +kernel
theorem dX7_fits_51 : decode cX7_fits 51 = .ok (.ifCond .eq 7, 3) := by decide +kernel
theorem dX7_fits_54 : decode cX7_fits 54 = .ok (.iconst 1, 1) := by decide +kernel
theorem dX7_fits_55 : decode cX7_fits 55 = .ok (.goto 4, 3) := by decide +kernel
theorem dX7_fits_58 : decode cX7_fits 58 = .ok (.iconst 0, 1) := by decide +kernel
theorem dX7_fits_59 : decode cX7_fits 59 = .ok (.iadd, 1) := by decide +kernel
theorem dX7_fits_60 : decode cX7_fits 60 = .ok (.istore 4, 2) := by decide +kernel
theorem dX7_fits_62 : decode cX7_fits 62 = .ok (.iinc 5 1, 3) := by decide +kernel
theorem dX7_fits_65 : decode cX7_fits 65 = .ok (.goto (-31), 3) := by decide +kernel
theorem dX7_fits_68 : decode cX7_fits 68 = .ok (.iload 4, 2) := by decide +kernel
theorem dX7_fits_70 : decode cX7_fits 70 = .ok (.ireturn, 1) := by decide +kernel
theorem dX7_words_0 : decode cX7_words 0 = .ok (.aload_n 0, 1) := by decide +kernel
theorem dX7_words_1 : decode cX7_words 1 = .ok (.iload_n 1, 1) := by decide +kernel
theorem dX7_words_2 : decode cX7_words 2 = .ok (.iload_n 2, 1) := by decide +kernel
theorem dX7_words_3 : decode cX7_words 3 = .ok (.invokevirtual 178, 3) := by decide +kernel
theorem dX7_words_6 : decode cX7_words 6 = .ok (.istore_n 3, 1) := by decide +kernel
theorem dX7_words_7 : decode cX7_words 7 = .ok (.iload_n 3, 1) := by decide +kernel
theorem dX7_words_8 : decode cX7_words 8 = .ok (.ifCond .lt 9, 3) := by decide +kernel
theorem dX7_words_11 : decode cX7_words 11 = .ok (.aload_n 0, 1) := by decide +kernel
theorem dX7_words_12 : decode cX7_words 12 = .ok (.iload_n 3, 1) := by decide +kernel
theorem dX7_words_13 : decode cX7_words 13 = .ok (.invokevirtual 109, 3) := by decide +kernel
theorem dX7_words_16 : decode cX7_words 16 = .ok (.ireturn, 1) := by decide +kernel
theorem dX7_words_17 : decode cX7_words 17 = .ok (.aload_n 0, 1) := by decide +kernel
theorem dX7_words_18 : decode cX7_words 18 = .ok (.getfield 7, 3) := by decide +kernel
theorem dX7_words_21 : decode cX7_words 21 = .ok (.aload_n 0, 1) := by decide +kernel
theorem dX7_words_22 : decode cX7_words 22 = .ok (.getfield 16, 3) := by decide +kernel
theorem dX7_words_25 : decode cX7_words 25 = .ok (.invokestatic 146, 3) := by decide +kernel
theorem dX7_words_28 : decode cX7_words 28 = .ok (.iconst 0, 1) := by decide +kernel
theorem dX7_words_29 : decode cX7_words 29 = .ok (.istore 4, 2) := by decide +kernel
theorem dX7_words_31 : decode cX7_words 31 = .ok (.iload 4, 2) := by decide +kernel
theorem dX7_words_33 : decode cX7_words 33 = .ok (.bipush 40, 2) := by decide +kernel
theorem dX7_words_35 : decode cX7_words 35 = .ok (.if_icmp .gt 23, 3) := by decide +kernel
theorem dX7_words_38 : decode cX7_words 38 = .ok (.aload_n 0, 1) := by decide +kernel
theorem dX7_words_39 : decode cX7_words 39 = .ok (.iload_n 1, 1) := by decide +kernel
theorem dX7_words_40 : decode cX7_words 40 = .ok (.iload_n 2, 1) := by decide +kernel
theorem dX7_words_41 : decode cX7_words 41 = .ok (.iload 4, 2) := by decide +kernel
theorem dX7_words_43 : decode cX7_words 43 = .ok (.invokevirtual 181, 3) := by decide +kernel
theorem dX7_words_46 : decode cX7_words 46 = .ok (.ifCond .eq 6, 3) := by decide +kernel
theorem dX7_words_49 : decode cX7_words 49 = .ok (.iload 4, 2) := by decide +kernel
theorem dX7_words_51 : decode cX7_words 51 = .ok (.ireturn, 1) := by decide +kernel
theorem dX7_words_52 : decode cX7_words 52 = .ok (.iinc 4 1, 3) := by decide +kernel
theorem dX7_words_55 : decode cX7_words 55 = .ok (.goto (-24), 3) := by decide +kernel
theorem dX7_words_58 : decode cX7_words 58 = .ok (.aload_n 0, 1) := by decide +kernel
theorem dX7_words_59 : decode cX7_words 59 = .ok (.iconst 3, 1) := by decide +kernel
theorem dX7_words_60 : decode cX7_words 60 = .ok (.invokevirtual 109, 3) := by decide +kernel
theorem dX7_words_63 : decode cX7_words 63 = .ok (.ireturn, 1) := by decide +kernel
theorem dX7_kinds_0 : decode cX7_kinds 0 = .ok (.aload_n 0, 1) := by decide +kernel
theorem dX7_kinds_1 : decode cX7_kinds 1 = .ok (.iload_n 1, 1) := by decide +kernel
theorem dX7_kinds_2 : decode cX7_kinds 2 = .ok (.iload_n 2, 1) := by decide +kernel
theorem dX7_kinds_3 : decode cX7_kinds 3 = .ok (.invokevirtual 178, 3) := by decide +kernel
theorem dX7_kinds_6 : decode cX7_kinds 6 = .ok (.istore_n 3, 1) := by decide +kernel
theorem dX7_kinds_7 : decode cX7_kinds 7 = .ok (.iload_n 3, 1) := by decide +kernel
theorem dX7_kinds_8 : decode cX7_kinds 8 = .ok (.ifCond .lt 9, 3) := by decide +kernel
theorem dX7_kinds_11 : decode cX7_kinds 11 = .ok (.aload_n 0, 1) := by decide +kernel
theorem dX7_kinds_12 : decode cX7_kinds 12 = .ok (.iload_n 3, 1) := by decide +kernel
theorem dX7_kinds_13 : decode cX7_kinds 13 = .ok (.invokevirtual 109, 3) := by decide +kernel
theorem dX7_kinds_16 : decode cX7_kinds 16 = .ok (.ireturn, 1) := by decide +kernel
theorem dX7_kinds_17 : decode cX7_kinds 17 = .ok (.aload_n 0, 1) := by decide +kernel
theorem dX7_kinds_18 : decode cX7_kinds 18 = .ok (.getfield 7, 3) := by decide +kernel
theorem dX7_kinds_21 : decode cX7_kinds 21 = .ok (.aload_n 0, 1) := by decide +kernel
theorem dX7_kinds_22 : decode cX7_kinds 22 = .ok (.getfield 16, 3) := by decide +kernel
theorem dX7_kinds_25 : decode cX7_kinds 25 = .ok (.invokestatic 146, 3) := by decide +kernel
theorem dX7_kinds_28 : decode cX7_kinds 28 = .ok (.iconst 0, 1) := by decide +kernel
theorem dX7_kinds_29 : decode cX7_kinds 29 = .ok (.istore 4, 2) := by decide +kernel
theorem dX7_kinds_31 : decode cX7_kinds 31 = .ok (.iconst 0, 1) := by decide +kernel
theorem dX7_kinds_32 : decode cX7_kinds 32 = .ok (.istore 5, 2) := by decide +kernel
theorem dX7_kinds_34 : decode cX7_kinds 34 = .ok (.iload 5, 2) := by decide +kernel
theorem dX7_kinds_36 : decode cX7_kinds 36 = .ok (.bipush 7, 2) := by decide +kernel
theorem dX7_kinds_38 : decode cX7_kinds 38 = .ok (.if_icmp .ge 39, 3) := by decide +kernel
theorem dX7_kinds_41 : decode cX7_kinds 41 = .ok (.aload_n 0, 1) := by decide +kernel
theorem dX7_kinds_42 : decode cX7_kinds 42 = .ok (.iload_n 2, 1) := by decide +kernel
theorem dX7_kinds_43 : decode cX7_kinds 43 = .ok (.iconst 0, 1) := by decide +kernel
theorem dX7_kinds_44 : decode cX7_kinds 44 = .ok (.iload 5, 2) := by decide +kernel
theorem dX7_kinds_46 : decode cX7_kinds 46 = .ok (.invokevirtual 79, 3) := by decide +kernel
theorem dX7_kinds_49 : decode cX7_kinds 49 = .ok (.iload 4, 2) := by decide +kernel
theorem dX7_kinds_51 : decode cX7_kinds 51 = .ok (.aload_n 0, 1) := by decide +kernel
theorem dX7_kinds_52 : decode cX7_kinds 52 = .ok (.iload_n 1, 1) := by decide +kernel
theorem dX7_kinds_53 : decode cX7_kinds 53 = .ok (.iload_n 2, 1) := by decide +kernel
theorem dX7_kinds_54 : decode cX7_kinds 54 = .ok (.invokevirtual 174, 3) := by decide +kernel
theorem dX7_kinds_57 : decode cX7_kinds 57 = .ok (.ifCond .eq 10, 3) := by decide +kernel
theorem dX7_kinds_60 : decode cX7_kinds 60 = .ok (.iconst 1, 1) := by decide +kernel
theorem dX7_kinds_61 : decode cX7_kinds 61 = .ok (.iload 5, 2) := by decide +kernel
theorem dX7_kinds_63 : decode cX7_kinds 63 = .ok (.ishl, 1) := by decide +kernel
theorem dX7_kinds_64 : decode cX7_kinds 64 = .ok (.goto 4, 3) := by decide +kernel
theorem dX7_kinds_67 : decode cX7_kinds 67 = .ok (.iconst 0, 1) := by decide +kernel
theorem dX7_kinds_68 : decode cX7_kinds 68 = .ok (.ior, 1) := by decide +kernel
theorem dX7_kinds_69 : decode cX7_kinds 69 = .ok (.istore 4, 2) := by decide +kernel
theorem dX7_kinds_71 : decode cX7_kinds 71 = .ok (.iinc 5 1, 3) := by decide +kernel
theorem dX7_kinds_74 : decode cX7_kinds 74 = .ok (.goto (-40), 3) := by decide +kernel
theorem dX7_kinds_77 : decode cX7_kinds 77 = .ok (.iload 4, 2) := by decide +kernel
theorem dX7_kinds_79 : decode cX7_kinds 79 = .ok (.ireturn, 1) := by decide +kernel
theorem dX7_draw_0 : decode cX7_draw 0 = .ok (.aload_n 0, 1) := by decide +kernel
theorem dX7_draw_1 : decode cX7_draw 1 = .ok (.getfield 7, 3) := by decide +kernel
theorem dX7_draw_4 : decode cX7_draw 4 = .ok (.iconst 2, 1) := by decide +kernel
theorem dX7_draw_5 : decode cX7_draw 5 = .ok (.aload_n 0, 1) := by decide +kernel
theorem dX7_draw_6 : decode cX7_draw 6 = .ok (.getfield 7, 3) := by decide +kernel
theorem dX7_draw_9 : decode cX7_draw 9 = .ok (.iconst 2, 1) := by decide +kernel
theorem dX7_draw_10 : decode cX7_draw 10 = .ok (.iaload, 1) := by decide +kernel
theorem dX7_draw_11 : decode cX7_draw 11 = .ok (.ldc 185, 2) := by decide +kernel
theorem dX7_draw_13 : decode cX7_draw 13 = .ok (.imul, 1) := by decide +kernel
theorem dX7_draw_14 : decode cX7_draw 14 = .ok (.sipush 12345, 3) := by decide +kernel
theorem dX7_draw_17 : decode cX7_draw 17 = .ok (.iadd, 1) := by decide +kernel
theorem dX7_draw_18 : decode cX7_draw 18 = .ok (.iastore, 1) := by decide +kernel
theorem dX7_draw_19 : decode cX7_draw 19 = .ok (.aload_n 0, 1) := by decide +kernel
theorem dX7_draw_20 : decode cX7_draw 20 = .ok (.getfield 7, 3) := by decide +kernel
theorem dX7_draw_23 : decode cX7_draw 23 = .ok (.iconst 2, 1) := by decide +kernel
theorem dX7_draw_24 : decode cX7_draw 24 = .ok (.iaload, 1) := by decide +kernel
theorem dX7_draw_25 : decode cX7_draw 25 = .ok (.bipush 8, 2) := by decide +kernel
theorem dX7_draw_27 : decode cX7_draw 27 = .ok (.iushr, 1) := by decide +kernel
theorem dX7_draw_28 : decode cX7_draw 28 = .ok (.ireturn, 1) := by decide +kernel
theorem dX7_come_0 : decode cX7_come 0 = .ok (.iload_n 1, 1) := by decide +kernel
theorem dX7_come_1 : decode cX7_come 1 = .ok (.i2l, 1) := by decide +kernel
theorem dX7_come_2 : decode cX7_come 2 = .ok (.lconst 1, 1) := by decide +kernel
theorem dX7_come_3 : decode cX7_come 3 = .ok (.ldc2_w 169, 3) := by decide +kernel
theorem dX7_come_6 : decode cX7_come 6 = .ok (.invokestatic 42, 3) := by decide +kernel
theorem dX7_come_9 : decode cX7_come 9 = .ok (.ifCond .ne 9, 3) := by decide +kernel
theorem dX7_come_12 : decode cX7_come 12 = .ok (.aload_n 0, 1) := by decide +kernel
theorem dX7_come_13 : decode cX7_come 13 = .ok (.iconst 0, 1) := by decide +kernel
theorem dX7_come_14 : decode cX7_come 14 = .ok (.invokevirtual 109, 3) := by decide +kernel
theorem dX7_come_17 : decode cX7_come 17 = .ok (.ireturn, 1) := by decide +kernel
theorem dX7_come_18 : decode cX7_come 18 = .ok (.aload_n 0, 1) := by decide +kernel
theorem dX7_come_19 : decode cX7_come 19 = .ok (.getfield 7, 3) := by decide +kernel
theorem dX7_come_22 : decode cX7_come 22 = .ok (.iconst 1, 1) := by decide +kernel
theorem dX7_come_23 : decode cX7_come 23 = .ok (.iaload, 1) := by decide +kernel
theorem dX7_come_24 : decode cX7_come 24 = .ok (.iload_n 1, 1) := by decide +kernel
theorem dX7_come_25 : decode cX7_come 25 = .ok (.iadd, 1) := by decide +kernel
theorem dX7_come_26 : decode cX7_come 26 = .ok (.ldc 75, 2) := by decide +kernel
theorem dX7_come_28 : decode cX7_come 28 = .ok (.if_icmp .le 9, 3) := by decide +kernel
theorem dX7_come_31 : decode cX7_come 31 = .ok (.aload_n 0, 1) := by decide +kernel
theorem dX7_come_32 : decode cX7_come 32 = .ok (.iconst 4, 1) := by decide +kernel
theorem dX7_come_33 : decode cX7_come 33 = .ok (.invokevirtual 109, 3) := by decide +kernel
theorem dX7_come_36 : decode cX7_come 36 = .ok (.ireturn, 1) := by decide +kernel
theorem dX7_come_37 : decode cX7_come 37 = .ok (.iconst 0, 1) := by decide +kernel
theorem dX7_come_38 : decode cX7_come 38 = .ok (.istore_n 2, 1) := by decide +kernel
theorem dX7_come_39 : decode cX7_come 39 = .ok (.iload_n 2, 1) := by decide +kernel
theorem dX7_come_40 : decode cX7_come 40 = .ok (.iload_n 1, 1) := by decide +kernel
theorem dX7_come_41 : decode cX7_come 41 = .ok (.if_icmp .ge 42, 3) := by decide +kernel
theorem dX7_come_44 : decode cX7_come 44 = .ok (.aload_n 0, 1) := by decide +kernel
theorem dX7_come_45 : decode cX7_come 45 = .ok (.invokevirtual 186, 3) := by decide +kernel
theorem dX7_come_48 : decode cX7_come 48 = .ok (.bipush 8, 2) := by decide +kernel
theorem dX7_come_50 : decode cX7_come 50 = .ok (.irem, 1) := by decide +kernel
theorem dX7_come_51 : decode cX7_come 51 = .ok (.istore_n 3, 1) := by decide +kernel
theorem dX7_come_52 : decode cX7_come 52 = .ok (.aload_n 0, 1) := by decide +kernel
theorem dX7_come_53 : decode cX7_come 53 = .ok (.getfield 7, 3) := by decide +kernel
theorem dX7_come_56 : decode cX7_come 56 = .ok (.aload_n 0, 1) := by decide +kernel
theorem dX7_come_57 : decode cX7_come 57 = .ok (.invokevirtual 83, 3) := by decide +kernel
theorem dX7_come_60 : decode cX7_come 60 = .ok (.bipush 100, 2) := by decide +kernel
theorem dX7_come_62 : decode cX7_come 62 = .ok (.iload_n 3, 1) := by decide +kernel
theorem dX7_come_63 : decode cX7_come 63 = .ok (.imul, 1) := by decide +kernel
theorem dX7_come_64 : decode cX7_come 64 = .ok (.aload_n 0, 1) := by decide +kernel
theorem dX7_come_65 : decode cX7_come 65 = .ok (.invokevirtual 186, 3) := by decide +kernel
theorem dX7_come_68 : decode cX7_come 68 = .ok (.bipush 41, 2) := by decide +kernel
theorem dX7_come_70 : decode cX7_come 70 = .ok (.irem, 1) := by decide +kernel
theorem dX7_come_71 : decode cX7_come 71 = .ok (.iadd, 1) := by decide +kernel
theorem dX7_come_72 : decode cX7_come 72 = .ok (.iastore, 1) := by decide +kernel
theorem dX7_come_73 : decode cX7_come 73 = .ok (.aload_n 0, 1) := by decide +kernel
theorem dX7_come_74 : decode cX7_come 74 = .ok (.invokevirtual 98, 3) := by decide +kernel
theorem dX7_come_77 : decode cX7_come 77 = .ok (.iinc 2 1, 3) := by decide +kernel
theorem dX7_come_80 : decode cX7_come 80 = .ok (.goto (-41), 3) := by decide +kernel
theorem dX7_come_83 : decode cX7_come 83 = .ok (.aload_n 0, 1) := by decide +kernel
theorem dX7_come_84 : decode cX7_come 84 = .ok (.getfield 7, 3) := by decide +kernel
theorem dX7_come_87 : decode cX7_come 87 = .ok (.iconst 4, 1) := by decide +kernel
theorem dX7_come_88 : decode cX7_come 88 = .ok (.iaload, 1) := by decide +kernel
theorem dX7_come_89 : decode cX7_come 89 = .ok (.ireturn, 1) := by decide +kernel
theorem dX7_odds_0 : decode cX7_odds 0 = .ok (.aload_n 0, 1) := by decide +kernel
theorem dX7_odds_1 : decode cX7_odds 1 = .ok (.iload_n 1, 1) := by decide +kernel
theorem dX7_odds_2 : decode cX7_odds 2 = .ok (.invokevirtual 123, 3) := by decide +kernel
theorem dX7_odds_5 : decode cX7_odds 5 = .ok (.ifCond .eq 25, 3) := by decide +kernel
theorem dX7_odds_8 : decode cX7_odds 8 = .ok (.iload_n 2, 1) := by decide +kernel
theorem dX7_odds_9 : decode cX7_odds 9 = .ok (.i2l, 1) := by decide +kernel
theorem dX7_odds_10 : decode cX7_odds 10 = .ok (.lconst 0, 1) := by decide +kernel
theorem dX7_odds_11 : decode cX7_odds 11 = .ok (.ldc2_w 169, 3) := by decide +kernel
theorem dX7_odds_14 : decode cX7_odds 14 = .ok (.invokestatic 42, 3) := by decide +kernel
theorem dX7_odds_17 : decode cX7_odds 17 = .ok (.ifCond .eq 13, 3) := by decide +kernel
theorem dX7_odds_20 : decode cX7_odds 20 = .ok (.iload_n 3, 1) := by decide +kernel
theorem dX7_odds_21 : decode cX7_odds 21 = .ok (.i2l, 1) := by decide +kernel
theorem dX7_odds_22 : decode cX7_odds 22 = .ok (.lconst 0, 1) := by decide +kernel
theorem dX7_odds_23 : decode cX7_odds 23 = .ok (.lconst 1, 1) := by decide +kernel
theorem dX7_odds_24 : decode cX7_odds 24 = .ok (.invokestatic 42, 3) := by decide +kernel
theorem dX7_odds_27 : decode cX7_odds 27 = .ok (.ifCond .ne 10, 3) := by decide +kernel
theorem dX7_odds_30 : decode cX7_odds 30 = .ok (.aload_n 0, 1) := by decide +kernel
theorem dX7_odds_31 : decode cX7_odds 31 = .ok (.iconst 0, 1) := by decide +kernel
theorem dX7_odds_32 : decode cX7_odds 32 = .ok (.invokevirtual 109, 3) := by decide +kernel
theorem dX7_odds_35 : decode cX7_odds 35 = .ok (.i2l, 1) := by decide +kernel
theorem dX7_odds_36 : decode cX7_odds 36 = .ok (.lreturn, 1) := by decide +kernel
theorem dX7_odds_37 : decode cX7_odds 37 = .ok (.aload_n 0, 1) := by decide +kernel
theorem dX7_odds_38 : decode cX7_odds 38 = .ok (.iload_n 1, 1) := by decide +kernel
theorem dX7_odds_39 : decode cX7_odds 39 = .ok (.iconst 2, 1) := by decide +kernel
theorem dX7_odds_40 : decode cX7_odds 40 = .ok (.invokevirtual 54, 3) := by decide +kernel
theorem dX7_odds_43 : decode cX7_odds 43 = .ok (.invokestatic 58, 3) := by decide +kernel
theorem dX7_odds_46 : decode cX7_odds 46 = .ok (.istore 4, 2) := by decide +kernel
theorem dX7_odds_48 : decode cX7_odds 48 = .ok (.bipush 8, 2) := by decide +kernel
theorem dX7_odds_50 : decode cX7_odds 50 = .ok (.istore 5, 2) := by decide +kernel
theorem dX7_odds_52 : decode cX7_odds 52 = .ok (.iload 4, 2) := by decide +kernel
theorem dX7_odds_54 : decode cX7_odds 54 = .ok (.iconst 2, 1) := by decide +kernel
theorem dX7_odds_55 : decode cX7_odds 55 = .ok (.irem, 1) := by decide +kernel
theorem dX7_odds_56 : decode cX7_odds 56 = .ok (.ifCond .ne 24, 3) := by decide +kernel
theorem dX7_odds_59 : decode cX7_odds 59 = .ok (.iload 5, 2) := by decide +kernel
theorem dX7_odds_61 : decode cX7_odds 61 = .ok (.iconst 1, 1) := by decide +kernel
theorem dX7_odds_62 : decode cX7_odds 62 = .ok (.if_icmp .le 18, 3) := by decide +kernel
theorem dX7_odds_65 : decode cX7_odds 65 = .ok (.iload 4, 2) := by decide +kernel
theorem dX7_odds_67 : decode cX7_odds 67 = .ok (.iconst 2, 1) := by decide +kernel
theorem dX7_odds_68 : decode cX7_odds 68 = .ok (.idiv, 1) := by decide +kernel
theorem dX7_odds_69 : decode cX7_odds 69 = .ok (.istore 4, 2) := by decide +kernel
theorem dX7_odds_71 : decode cX7_odds 71 = .ok (.iload 5, 2) := by decide +kernel
theorem dX7_odds_73 : decode cX7_odds 73 = .ok (.iconst 2, 1) := by decide +kernel
theorem dX7_odds_74 : decode cX7_odds 74 = .ok (.idiv, 1) := by decide +kernel
theorem dX7_odds_75 : decode cX7_odds 75 = .ok (.istore 5, 2) := by decide +kernel
theorem dX7_odds_77 : decode cX7_odds 77 = .ok (.goto (-25), 3) := by decide +kernel
theorem dX7_odds_80 : decode cX7_odds 80 = .ok (.lconst 1, 1) := by decide +kernel
theorem dX7_odds_81 : decode cX7_odds 81 = .ok (.lstore 6, 2) := by decide +kernel
theorem dX7_odds_83 : decode cX7_odds 83 = .ok (.iconst 0, 1) := by decide +kernel
theorem dX7_odds_84 : decode cX7_odds 84 = .ok (.istore 8, 2) := by decide +kernel
theorem dX7_odds_86 : decode cX7_odds 86 = .ok (.iload 8, 2) := by decide +kernel
theorem dX7_odds_88 : decode cX7_odds 88 = .ok (.iload_n 2, 1) := by decide +kernel
theorem dX7_odds_89 : decode cX7_odds 89 = .ok (.if_icmp .ge 27, 3) := by decide +kernel
theorem dX7_odds_92 : decode cX7_odds 92 = .ok (.lload 6, 2) := by decide +kernel
theorem dX7_odds_94 : decode cX7_odds 94 = .ok (.iload_n 3, 1) := by decide +kernel
theorem dX7_odds_95 : decode cX7_odds 95 = .ok (.ifCond .ne 9, 3) := by decide +kernel
theorem dX7_odds_98 : decode cX7_odds 98 = .ok (.iload 4, 2) := by decide +kernel
theorem dX7_odds_100 : decode cX7_odds 100 = .ok (.i2l, 1) := by decide +kernel
theorem dX7_odds_101 : decode cX7_odds 101 = .ok (.goto 6, 3) := by decide +kernel
theorem dX7_odds_104 : decode cX7_odds 104 = .ok (.iload 5, 2) := by decide +kernel
theorem dX7_odds_106 : decode cX7_odds 106 = .ok (.i2l, 1) := by decide +kernel
theorem dX7_odds_107 : decode cX7_odds 107 = .ok (.lmul, 1) := by decide +kernel
theorem dX7_odds_108 : decode cX7_odds 108 = .ok (.lstore 6, 2) := by decide +kernel
theorem dX7_odds_110 : decode cX7_odds 110 = .ok (.iinc 8 1, 3) := by decide +kernel
theorem dX7_odds_113 : decode cX7_odds 113 = .ok (.goto (-27), 3) := by decide +kernel
theorem dX7_odds_116 : decode cX7_odds 116 = .ok (.lload 6, 2) := by decide +kernel
theorem dX7_odds_118 : decode cX7_odds 118 = .ok (.lreturn, 1) := by decide +kernel
theorem dX7_seed_0 : decode cX7_seed 0 = .ok (.aload_n 0, 1) := by decide +kernel
theorem dX7_seed_1 : decode cX7_seed 1 = .ok (.iconst 2, 1) := by decide +kernel
theorem dX7_seed_2 : decode cX7_seed 2 = .ok (.iload_n 1, 1) := by decide +kernel
theorem dX7_seed_3 : decode cX7_seed 3 = .ok (.invokevirtual 106, 3) := by decide +kernel
theorem dX7_seed_6 : decode cX7_seed 6 = .ok (.ireturn, 1) := by decide +kernel
theorem dX7_feed_0 : decode cX7_feed 0 = .ok (.iload_n 2, 1) := by decide +kernel
theorem dX7_feed_1 : decode cX7_feed 1 = .ok (.i2l, 1) := by decide +kernel
theorem dX7_feed_2 : decode cX7_feed 2 = .ok (.lconst 1, 1) := by decide +kernel
theorem dX7_feed_3 : decode cX7_feed 3 = .ok (.ldc2_w 189, 3) := by decide +kernel
theorem dX7_feed_6 : decode cX7_feed 6 = .ok (.invokestatic 42, 3) := by decide +kernel
theorem dX7_feed_9 : decode cX7_feed 9 = .ok (.ifCond .ne 9, 3) := by decide +kernel
theorem dX7_feed_12 : decode cX7_feed 12 = .ok (.aload_n 0, 1) := by decide +kernel
theorem dX7_feed_13 : decode cX7_feed 13 = .ok (.iconst 0, 1) := by decide +kernel
theorem dX7_feed_14 : decode cX7_feed 14 = .ok (.invokevirtual 109, 3) := by decide +kernel
theorem dX7_feed_17 : decode cX7_feed 17 = .ok (.ireturn, 1) := by decide +kernel
theorem dX7_feed_18 : decode cX7_feed 18 = .ok (.aload_n 0, 1) := by decide +kernel
theorem dX7_feed_19 : decode cX7_feed 19 = .ok (.getfield 191, 3) := by decide +kernel
theorem dX7_feed_22 : decode cX7_feed 22 = .ok (.iload_n 2, 1) := by decide +kernel
theorem dX7_feed_23 : decode cX7_feed 23 = .ok (.iadd, 1) := by decide +kernel
theorem dX7_feed_24 : decode cX7_feed 24 = .ok (.bipush 120, 2) := by decide +kernel
theorem dX7_feed_26 : decode cX7_feed 26 = .ok (.if_icmp .le 9, 3) := by decide +kernel
theorem dX7_feed_29 : decode cX7_feed 29 = .ok (.aload_n 0, 1) := by decide +kernel
theorem dX7_feed_30 : decode cX7_feed 30 = .ok (.iconst 1, 1) := by decide +kernel
theorem dX7_feed_31 : decode cX7_feed 31 = .ok (.invokevirtual 109, 3) := by decide +kernel
theorem dX7_feed_34 : decode cX7_feed 34 = .ok (.ireturn, 1) := by decide +kernel
theorem dX7_feed_35 : decode cX7_feed 35 = .ok (.iload_n 2, 1) := by decide +kernel
theorem dX7_feed_36 : decode cX7_feed 36 = .ok (.iconst 1, 1) := by decide +kernel
theorem dX7_feed_37 : decode cX7_feed 37 = .ok (.isub, 1) := by decide +kernel
theorem dX7_feed_38 : decode cX7_feed 38 = .ok (.istore_n 3, 1) := by decide +kernel
theorem dX7_feed_39 : decode cX7_feed 39 = .ok (.iload_n 3, 1) := by decide +kernel
theorem dX7_feed_40 : decode cX7_feed 40 = .ok (.ifCond .lt 35, 3) := by decide +kernel
theorem dX7_feed_43 : decode cX7_feed 43 = .ok (.aload_n 0, 1) := by decide +kernel
theorem dX7_feed_44 : decode cX7_feed 44 = .ok (.getfield 25, 3) := by decide +kernel
theorem dX7_feed_47 : decode cX7_feed 47 = .ok (.aload_n 0, 1) := by decide +kernel
theorem dX7_feed_48 : decode cX7_feed 48 = .ok (.getfield 191, 3) := by decide +kernel
theorem dX7_feed_51 : decode cX7_feed 51 = .ok (.iload_n 1, 1) := by decide +kernel
theorem dX7_feed_52 : decode cX7_feed 52 = .ok (.bipush 8, 2) := by decide +kernel
theorem dX7_feed_54 : decode cX7_feed 54 = .ok (.iload_n 3, 1) := by decide +kernel
theorem dX7_feed_55 : decode cX7_feed 55 = .ok (.imul, 1) := by decide +kernel
theorem dX7_feed_56 : decode cX7_feed 56 = .ok (.ishr, 1) := by decide +kernel
theorem dX7_feed_57 : decode cX7_feed 57 = .ok (.i2b, 1) := by decide +kernel
theorem dX7_feed_58 : decode cX7_feed 58 = .ok (.bastore, 1) := by decide +kernel
theorem dX7_feed_59 : decode cX7_feed 59 = .ok (.aload_n 0, 1) := by decide +kernel
theorem dX7_feed_60 : decode cX7_feed 60 = .ok (.dup, 1) := by decide +kernel
theorem dX7_feed_61 : decode cX7_feed 61 = .ok (.getfield 191, 3) := by decide +kernel
theorem dX7_feed_64 : decode cX7_feed 64 = .ok (.iconst 1, 1) := by decide +kernel
theorem dX7_feed_65 : decode cX7_feed 65 = .ok (.iadd, 1) := by decide +kernel
theorem dX7_feed_66 : decode cX7_feed 66 = .ok (.putfield 191, 3) := by decide +kernel
theorem dX7_feed_69 : decode cX7_feed 69 = .ok (.iinc 3 (-1), 3) := by decide +kernel
theorem dX7_feed_72 : decode cX7_feed 72 = .ok (.goto (-33), 3) := by decide +kernel
theorem dX7_feed_75 : decode cX7_feed 75 = .ok (.aload_n 0, 1) := by decide +kernel
theorem dX7_feed_76 : decode cX7_feed 76 = .ok (.getfield 191, 3) := by decide +kernel
theorem dX7_feed_79 : decode cX7_feed 79 = .ok (.ireturn, 1) := by decide +kernel
theorem dX7_wipe_0 : decode cX7_wipe 0 = .ok (.aload_n 0, 1) := by decide +kernel
theorem dX7_wipe_1 : decode cX7_wipe 1 = .ok (.getfield 191, 3) := by decide +kernel
theorem dX7_wipe_4 : decode cX7_wipe 4 = .ok (.istore_n 1, 1) := by decide +kernel
theorem dX7_wipe_5 : decode cX7_wipe 5 = .ok (.aload_n 0, 1) := by decide +kernel
theorem dX7_wipe_6 : decode cX7_wipe 6 = .ok (.iconst 0, 1) := by decide +kernel
theorem dX7_wipe_7 : decode cX7_wipe 7 = .ok (.putfield 191, 3) := by decide +kernel
theorem dX7_wipe_10 : decode cX7_wipe 10 = .ok (.iload_n 1, 1) := by decide +kernel
theorem dX7_wipe_11 : decode cX7_wipe 11 = .ok (.ireturn, 1) := by decide +kernel
theorem dX7_letter_0 : decode cX7_letter 0 = .ok (.iload_n 0, 1) := by decide +kernel
theorem dX7_letter_1 : decode cX7_letter 1 = .ok (.bipush 97, 2) := by decide +kernel
theorem dX7_letter_3 : decode cX7_letter 3 = .ok (.if_icmp .lt 18, 3) := by decide +kernel
theorem dX7_letter_6 : decode cX7_letter 6 = .ok (.iload_n 0, 1) := by decide +kernel
theorem dX7_letter_7 : decode cX7_letter 7 = .ok (.bipush 122, 2) := by decide +kernel
theorem dX7_letter_9 : decode cX7_letter 9 = .ok (.if_icmp .gt 12, 3) := by decide +kernel
theorem dX7_letter_12 : decode cX7_letter 12 = .ok (.iload_n 0, 1) := by decide +kernel
theorem dX7_letter_13 : decode cX7_letter 13 = .ok (.bipush 97, 2) := by decide +kernel
theorem dX7_letter_15 : decode cX7_letter 15 = .ok (.isub, 1) := by decide +kernel
theorem dX7_letter_16 : decode cX7_letter 16 = .ok (.iconst 1, 1) := by decide +kernel
theorem dX7_letter_17 : decode cX7_letter 17 = .ok (.iadd, 1) := by decide +kernel
theorem dX7_letter_18 : decode cX7_letter 18 = .ok (.goto 4, 3) := by decide +kernel
theorem dX7_letter_21 : decode cX7_letter 21 = .ok (.iconst 0, 1) := by decide +kernel
theorem dX7_letter_22 : decode cX7_letter 22 = .ok (.ireturn, 1) := by decide +kernel
theorem dX7_isDigit_0 : decode cX7_isDigit 0 = .ok (.iload_n 0, 1) := by decide +kernel
theorem dX7_isDigit_1 : decode cX7_isDigit 1 = .ok (.bipush 48, 2) := by decide +kernel
theorem dX7_isDigit_3 : decode cX7_isDigit 3 = .ok (.if_icmp .lt 13, 3) := by decide +kernel
theorem dX7_isDigit_6 : decode cX7_isDigit 6 = .ok (.iload_n 0, 1) := by decide +kernel
theorem dX7_isDigit_7 : decode cX7_isDigit 7 = .ok (.bipush 57, 2) := by decide +kernel
theorem dX7_isDigit_9 : decode cX7_isDigit 9 = .ok (.if_icmp .gt 7, 3) := by decide +kernel
theorem dX7_isDigit_12 : decode cX7_isDigit 12 = .ok (.iconst 1, 1) := by decide +kernel
theorem dX7_isDigit_13 : decode cX7_isDigit 13 = .ok (.goto 4, 3) := by decide +kernel
theorem dX7_isDigit_16 : decode cX7_isDigit 16 = .ok (.iconst 0, 1) := by decide +kernel
theorem dX7_isDigit_17 : decode cX7_isDigit 17 = .ok (.ireturn, 1) := by decide +kernel
theorem dX7_byteAt_0 : decode cX7_byteAt 0 = .ok (.iload_n 1, 1) := by decide +kernel
theorem dX7_byteAt_1 : decode cX7_byteAt 1 = .ok (.aload_n 0, 1) := by decide +kernel
theorem dX7_byteAt_2 : decode cX7_byteAt 2 = .ok (.getfield 191, 3) := by decide +kernel
theorem dX7_byteAt_5 : decode cX7_byteAt 5 = .ok (.if_icmp .ge 12, 3) := by decide +kernel
theorem dX7_byteAt_8 : decode cX7_byteAt 8 = .ok (.aload_n 0, 1) := by decide +kernel
theorem dX7_byteAt_9 : decode cX7_byteAt 9 = .ok (.getfield 25, 3) := by decide +kernel
theorem dX7_byteAt_12 : decode cX7_byteAt 12 = .ok (.iload_n 1, 1) := by decide +kernel
theorem dX7_byteAt_13 : decode cX7_byteAt 13 = .ok (.baload, 1) := by decide +kernel
theorem dX7_byteAt_14 : decode cX7_byteAt 14 = .ok (.goto 4, 3) := by decide +kernel
theorem dX7_byteAt_17 : decode cX7_byteAt 17 = .ok (.iconst (-1), 1) := by decide +kernel
theorem dX7_byteAt_18 : decode cX7_byteAt 18 = .ok (.ireturn, 1) := by decide +kernel
theorem dX7_next_0 : decode cX7_next 0 = .ok (.aload_n 0, 1) := by decide +kernel
theorem dX7_next_1 : decode cX7_next 1 = .ok (.aload_n 0, 1) := by decide +kernel
theorem dX7_next_2 : decode cX7_next 2 = .ok (.getfield 195, 3) := by decide +kernel
theorem dX7_next_5 : decode cX7_next 5 = .ok (.invokevirtual 198, 3) := by decide +kernel
theorem dX7_next_8 : decode cX7_next 8 = .ok (.bipush 32, 2) := by decide +kernel
theorem dX7_next_10 : decode cX7_next 10 = .ok (.if_icmp .ne 16, 3) := by decide +kernel
theorem dX7_next_13 : decode cX7_next 13 = .ok (.aload_n 0, 1) := by decide +kernel
theorem dX7_next_14 : decode cX7_next 14 = .ok (.dup, 1) := by decide +kernel
theorem dX7_next_15 : decode cX7_next 15 = .ok (.getfield 195, 3) := by decide +kernel
theorem dX7_next_18 : decode cX7_next 18 = .ok (.iconst 1, 1) := by decide +kernel
theorem dX7_next_19 : decode cX7_next 19 = .ok (.iadd, 1) := by decide +kernel
theorem dX7_next_20 : decode cX7_next 20 = .ok (.putfield 195, 3) := by decide +kernel
theorem dX7_next_23 : decode cX7_next 23 = .ok (.goto (-23), 3) := by decide +kernel
theorem dX7_next_26 : decode cX7_next 26 = .ok (.aload_n 0, 1) := by decide +kernel
theorem dX7_next_27 : decode cX7_next 27 = .ok (.aload_n 0, 1) := by decide +kernel
theorem dX7_next_28 : decode cX7_next 28 = .ok (.getfield 195, 3) := by decide +kernel
theorem dX7_next_31 : decode cX7_next 31 = .ok (.putfield 201, 3) := by decide +kernel
theorem dX7_next_34 : decode cX7_next 34 = .ok (.aload_n 0, 1) := by decide +kernel
theorem dX7_next_35 : decode cX7_next 35 = .ok (.lconst 0, 1) := by decide +kernel
theorem dX7_next_36 : decode cX7_next 36 = .ok (.putfield 204, 3) := by decide +kernel
theorem dX7_next_39 : decode cX7_next 39 = .ok (.aload_n 0, 1) := by decide +kernel
theorem dX7_next_40 : decode cX7_next 40 = .ok (.aload_n 0, 1) := by decide +kernel
theorem dX7_next_41 : decode cX7_next 41 = .ok (.getfield 195, 3) := by decide +kernel
theorem dX7_next_44 : decode cX7_next 44 = .ok (.invokevirtual 198, 3) := by decide +kernel
theorem dX7_next_47 : decode cX7_next 47 = .ok (.istore_n 1, 1) := by decide +kernel
theorem dX7_next_48 : decode cX7_next 48 = .ok (.aload_n 0, 1) := by decide +kernel
theorem dX7_next_49 : decode cX7_next 49 = .ok (.getfield 195, 3) := by decide +kernel
theorem dX7_next_52 : decode cX7_next 52 = .ok (.aload_n 0, 1) := by decide +kernel
theorem dX7_next_53 : decode cX7_next 53 = .ok (.getfield 191, 3) := by decide +kernel
theorem dX7_next_56 : decode cX7_next 56 = .ok (.if_icmp .ne 11, 3) := by decide +kernel
theorem dX7_next_59 : decode cX7_next 59 = .ok (.aload_n 0, 1) := by decide +kernel
theorem dX7_next_60 : decode cX7_next 60 = .ok (.iconst 0, 1) := by decide +kernel
theorem dX7_next_61 : decode cX7_next 61 = .ok (.putfield 208, 3) := by decide +kernel
theorem dX7_next_64 : decode cX7_next 64 = .ok (.goto 197, 3) := by decide +kernel
theorem dX7_next_67 : decode cX7_next 67 = .ok (.iload_n 1, 1) := by decide +kernel
theorem dX7_next_68 : decode cX7_next 68 = .ok (.bipush 59, 2) := by decide +kernel
theorem dX7_next_70 : decode cX7_next 70 = .ok (.if_icmp .ne 21, 3) := by decide +kernel
theorem dX7_next_73 : decode cX7_next 73 = .ok (.aload_n 0, 1) := by decide +kernel
theorem dX7_next_74 : decode cX7_next 74 = .ok (.iconst 3, 1) := by decide +kernel
theorem dX7_next_75 : decode cX7_next 75 = .ok (.putfield 208, 3) := by decide +kernel
theorem dX7_next_78 : decode cX7_next 78 = .ok (.aload_n 0, 1) := by decide +kernel
theorem dX7_next_79 : decode cX7_next 79 = .ok (.dup, 1) := by decide +kernel
theorem dX7_next_80 : decode cX7_next 80 = .ok (.getfield 195, 3) := by decide +kernel
theorem dX7_next_83 : decode cX7_next 83 = .ok (.iconst 1, 1) := by decide +kernel
theorem dX7_next_84 : decode cX7_next 84 = .ok (.iadd, 1) := by decide +kernel
theorem dX7_next_85 : decode cX7_next 85 = .ok (.putfield 195, 3) := by decide +kernel
theorem dX7_next_88 : decode cX7_next 88 = .ok (.goto 173, 3) := by decide +kernel
theorem dX7_next_91 : decode cX7_next 91 = .ok (.iload_n 1, 1) := by decide +kernel
theorem dX7_next_92 : decode cX7_next 92 = .ok (.invokestatic 211, 3) := by decide +kernel
theorem dX7_next_95 : decode cX7_next 95 = .ok (.ifCond .le 78, 3) := by decide +kernel
theorem dX7_next_98 : decode cX7_next 98 = .ok (.aload_n 0, 1) := by decide +kernel
theorem dX7_next_99 : decode cX7_next 99 = .ok (.iconst 1, 1) := by decide +kernel
theorem dX7_next_100 : decode cX7_next 100 = .ok (.putfield 208, 3) := by decide +kernel
theorem dX7_next_103 : decode cX7_next 103 = .ok (.aload_n 0, 1) := by decide +kernel
theorem dX7_next_104 : decode cX7_next 104 = .ok (.aload_n 0, 1) := by decide +kernel
theorem dX7_next_105 : decode cX7_next 105 = .ok (.getfield 195, 3) := by decide +kernel
theorem dX7_next_108 : decode cX7_next 108 = .ok (.invokevirtual 198, 3) := by decide +kernel
theorem dX7_next_111 : decode cX7_next 111 = .ok (.invokestatic 211, 3) := by decide +kernel
theorem dX7_next_114 : decode cX7_next 114 = .ok (.ifCond .le 147, 3) := by decide +kernel
theorem dX7_next_117 : decode cX7_next 117 = .ok (.aload_n 0, 1) := by decide +kernel
theorem dX7_next_118 : decode cX7_next 118 = .ok (.aload_n 0, 1) := by decide +kernel
theorem dX7_next_119 : decode cX7_next 119 = .ok (.getfield 204, 3) := by decide +kernel
theorem dX7_next_122 : decode cX7_next 122 = .ok (.ldc2_w 214, 3) := by decide +kernel
theorem dX7_next_125 : decode cX7_next 125 = .ok (.lcmp, 1) := by decide +kernel
theorem dX7_next_126 : decode cX7_next 126 = .ok (.ifCond .le 10, 3) := by decide +kernel
theorem dX7_next_129 : decode cX7_next 129 = .ok (.aload_n 0, 1) := by decide +kernel
theorem dX7_next_130 : decode cX7_next 130 = .ok (.getfield 204, 3) := by decide +kernel
theorem dX7_next_133 : decode cX7_next 133 = .ok (.goto 24, 3) := by decide +kernel
theorem dX7_next_136 : decode cX7_next 136 = .ok (.aload_n 0, 1) := by decide +kernel
theorem dX7_next_137 : decode cX7_next 137 = .ok (.getfield 204, 3) := by decide +kernel
theorem dX7_next_140 : decode cX7_next 140 = .ok (.ldc2_w 216, 3) := by decide +kernel
theorem dX7_next_143 : decode cX7_next 143 = .ok (.lmul, 1) := by decide +kernel
theorem dX7_next_144 : decode cX7_next 144 = .ok (.aload_n 0, 1) := by decide +kernel
theorem dX7_next_145 : decode cX7_next 145 = .ok (.aload_n 0, 1) := by decide +kernel
theorem dX7_next_146 : decode cX7_next 146 = .ok (.getfield 195, 3) := by decide +kernel
theorem dX7_next_149 : decode cX7_next 149 = .ok (.invokevirtual 198, 3) := by decide +kernel
theorem dX7_next_152 : decode cX7_next 152 = .ok (.invokestatic 211, 3) := by decide +kernel
theorem dX7_next_155 : decode cX7_next 155 = .ok (.i2l, 1) := by decide +kernel
theorem dX7_next_156 : decode cX7_next 156 = .ok (.ladd, 1) := by decide +kernel
theorem dX7_next_157 : decode cX7_next 157 = .ok (.putfield 204, 3) := by decide +kernel
theorem dX7_next_160 : decode cX7_next 160 = .ok (.aload_n 0, 1) := by decide +kernel
theorem dX7_next_161 : decode cX7_next 161 = .ok (.dup, 1) := by decide +kernel
theorem dX7_next_162 : decode cX7_next 162 = .ok (.getfield 195, 3) := by decide +kernel
theorem dX7_next_165 : decode cX7_next 165 = .ok (.iconst 1, 1) := by decide +kernel
theorem dX7_next_166 : decode cX7_next 166 = .ok (.iadd, 1) := by decide +kernel
theorem dX7_next_167 : decode cX7_next 167 = .ok (.putfield 195, 3) := by decide +kernel
theorem dX7_next_170 : decode cX7_next 170 = .ok (.goto (-67), 3) := by decide +kernel
theorem dX7_next_173 : decode cX7_next 173 = .ok (.iload_n 1, 1) := by decide +kernel
theorem dX7_next_174 : decode cX7_next 174 = .ok (.invokestatic 218, 3) := by decide +kernel
theorem dX7_next_177 : decode cX7_next 177 = .ok (.ifCond .eq 79, 3) := by decide +kernel
theorem dX7_next_180 : decode cX7_next 180 = .ok (.aload_n 0, 1) := by decide +kernel
theorem dX7_next_181 : decode cX7_next 181 = .ok (.iconst 2, 1) := by decide +kernel
theorem dX7_next_182 : decode cX7_next 182 = .ok (.putfield 208, 3) := by decide +kernel
theorem dX7_next_185 : decode cX7_next 185 = .ok (.aload_n 0, 1) := by decide +kernel
theorem dX7_next_186 : decode cX7_next 186 = .ok (.aload_n 0, 1) := by decide +kernel
theorem dX7_next_187 : decode cX7_next 187 = .ok (.getfield 195, 3) := by decide +kernel
theorem dX7_next_190 : decode cX7_next 190 = .ok (.invokevirtual 198, 3) := by decide +kernel
theorem dX7_next_193 : decode cX7_next 193 = .ok (.invokestatic 218, 3) := by decide +kernel
theorem dX7_next_196 : decode cX7_next 196 = .ok (.ifCond .eq 65, 3) := by decide +kernel
theorem dX7_next_199 : decode cX7_next 199 = .ok (.aload_n 0, 1) := by decide +kernel
theorem dX7_next_200 : decode cX7_next 200 = .ok (.aload_n 0, 1) := by decide +kernel
theorem dX7_next_201 : decode cX7_next 201 = .ok (.getfield 204, 3) := by decide +kernel
theorem dX7_next_204 : decode cX7_next 204 = .ok (.ldc2_w 221, 3) := by decide +kernel
theorem dX7_next_207 : decode cX7_next 207 = .ok (.lcmp, 1) := by decide +kernel
theorem dX7_next_208 : decode cX7_next 208 = .ok (.ifCond .le 10, 3) := by decide +kernel
theorem dX7_next_211 : decode cX7_next 211 = .ok (.aload_n 0, 1) := by decide +kernel
theorem dX7_next_212 : decode cX7_next 212 = .ok (.getfield 204, 3) := by decide +kernel
theorem dX7_next_215 : decode cX7_next 215 = .ok (.goto 25, 3) := by decide +kernel
theorem dX7_next_218 : decode cX7_next 218 = .ok (.aload_n 0, 1) := by decide +kernel
theorem dX7_next_219 : decode cX7_next 219 = .ok (.getfield 204, 3) := by decide +kernel
theorem dX7_next_222 : decode cX7_next 222 = .ok (.ldc2_w 223, 3) := by decide +kernel
theorem dX7_next_225 : decode cX7_next 225 = .ok (.lmul, 1) := by decide +kernel
theorem dX7_next_226 : decode cX7_next 226 = .ok (.aload_n 0, 1) := by decide +kernel
theorem dX7_next_227 : decode cX7_next 227 = .ok (.aload_n 0, 1) := by decide +kernel
theorem dX7_next_228 : decode cX7_next 228 = .ok (.getfield 195, 3) := by decide +kernel
theorem dX7_next_231 : decode cX7_next 231 = .ok (.invokevirtual 198, 3) := by decide +kernel
theorem dX7_next_234 : decode cX7_next 234 = .ok (.i2l, 1) := by decide +kernel
theorem dX7_next_235 : decode cX7_next 235 = .ok (.ladd, 1) := by decide +kernel
theorem dX7_next_236 : decode cX7_next 236 = .ok (.ldc2_w 225, 3) := by decide +kernel
theorem dX7_next_239 : decode cX7_next 239 = .ok (.lsub, 1) := by decide +kernel
theorem dX7_next_240 : decode cX7_next 240 = .ok (.putfield 204, 3) := by decide +kernel
theorem dX7_next_243 : decode cX7_next 243 = .ok (.aload_n 0, 1) := by decide +kernel
theorem dX7_next_244 : decode cX7_next 244 = .ok (.dup, 1) := by decide +kernel
theorem dX7_next_245 : decode cX7_next 245 = .ok (.getfield 195, 3) := by decide +kernel
theorem dX7_next_248 : decode cX7_next 248 = .ok (.iconst 1, 1) := by decide +kernel
theorem dX7_next_249 : decode cX7_next 249 = .ok (.iadd, 1) := by decide +kernel
theorem dX7_next_250 : decode cX7_next 250 = .ok (.putfield 195, 3) := by decide +kernel
theorem dX7_next_253 : decode cX7_next 253 = .ok (.goto (-68), 3) := by decide +kernel
theorem dX7_next_256 : decode cX7_next 256 = .ok (.aload_n 0, 1) := by decide +kernel
theorem dX7_next_257 : decode cX7_next 257 = .ok (.iconst 4, 1) := by decide +kernel
theorem dX7_next_258 : decode cX7_next 258 = .ok (.putfield 208, 3) := by decide +kernel
theorem dX7_next_261 : decode cX7_next 261 = .ok (.return_, 1) := by decide +kernel
theorem dX7_wrongHere_0 : decode cX7_wrongHere 0 = .ok (.aload_n 0, 1) := by decide +kernel
theorem dX7_wrongHere_1 : decode cX7_wrongHere 1 = .ok (.aload_n 0, 1) := by decide +kernel
theorem dX7_wrongHere_2 : decode cX7_wrongHere 2 = .ok (.getfield 227, 3) := by decide +kernel
theorem dX7_wrongHere_5 : decode cX7_wrongHere 5 = .ok (.ifCond .ge 10, 3) := by decide +kernel
theorem dX7_wrongHere_8 : decode cX7_wrongHere 8 = .ok (.aload_n 0, 1) := by decide +kernel
theorem dX7_wrongHere_9 : decode cX7_wrongHere 9 = .ok (.getfield 201, 3) := by decide +kernel
theorem dX7_wrongHere_12 : decode cX7_wrongHere 12 = .ok (.goto 7, 3) := by decide +kernel
theorem dX7_wrongHere_15 : decode cX7_wrongHere 15 = .ok (.aload_n 0, 1) := by decide +kernel
theorem dX7_wrongHere_16 : decode cX7_wrongHere 16 = .ok (.getfield 227, 3) := by decide +kernel
theorem dX7_wrongHere_19 : decode cX7_wrongHere 19 = .ok (.putfield 227, 3) := by decide +kernel
theorem dX7_wrongHere_22 : decode cX7_wrongHere 22 = .ok (.return_, 1) := by decide +kernel
theorem dX7_isWord_0 : decode cX7_isWord 0 = .ok (.aload_n 0, 1) := by decide +kernel
theorem dX7_isWord_1 : decode cX7_isWord 1 = .ok (.getfield 208, 3) := by decide +kernel
theorem dX7_isWord_4 : decode cX7_isWord 4 = .ok (.iconst 1, 1) := by decide +kernel
theorem dX7_isWord_5 : decode cX7_isWord 5 = .ok (.if_icmp .ne 16, 3) := by decide +kernel
theorem dX7_isWord_8 : decode cX7_isWord 8 = .ok (.aload_n 0, 1) := by decide +kernel
theorem dX7_isWord_9 : decode cX7_isWord 9 = .ok (.getfield 204, 3) := by decide +kernel
theorem dX7_isWord_12 : decode cX7_isWord 12 = .ok (.lload_n 1, 1) := by decide +kernel
theorem dX7_isWord_13 : decode cX7_isWord 13 = .ok (.lcmp, 1) := by decide +kernel
theorem dX7_isWord_14 : decode cX7_isWord 14 = .ok (.ifCond .ne 7, 3) := by decide +kernel
theorem dX7_isWord_17 : decode cX7_isWord 17 = .ok (.iconst 1, 1) := by decide +kernel
theorem dX7_isWord_18 : decode cX7_isWord 18 = .ok (.goto 4, 3) := by decide +kernel
theorem dX7_isWord_21 : decode cX7_isWord 21 = .ok (.iconst 0, 1) := by decide +kernel
theorem dX7_isWord_22 : decode cX7_isWord 22 = .ok (.ireturn, 1) := by decide +kernel
theorem dX7_kindHere_0 : decode cX7_kindHere 0 = .ok (.aload_n 0, 1) := by decide +kernel
theorem dX7_kindHere_1 : decode cX7_kindHere 1 = .ok (.ldc2_w 230, 3) := by decide +kernel
theorem dX7_kindHere_4 : decode cX7_kindHere 4 = .ok (.invokevirtual 232, 3) := by decide +kernel
theorem dX7_kindHere_7 : decode cX7_kindHere 7 = .ok (.ifCond .eq 7, 3) := by decide +kernel
theorem dX7_kindHere_10 : decode cX7_kindHere 10 = .ok (.iconst 0, 1) := by decide +kernel
theorem dX7_kindHere_11 : decode cX7_kindHere 11 = .ok (.goto 89, 3) := by decide +kernel
theorem dX7_kindHere_14 : decode cX7_kindHere 14 = .ok (.aload_n 0, 1) := by decide +kernel
theorem dX7_kindHere_15 : decode cX7_kindHere 15 = .ok (.ldc2_w 236, 3) := by decide +kernel
theorem dX7_kindHere_18 : decode cX7_kindHere 18 = .ok (.invokevirtual 232, 3) := by decide +kernel
theorem dX7_kindHere_21 : decode cX7_kindHere 21 = .ok (.ifCond .eq 7, 3) := by decide +kernel
theorem dX7_kindHere_24 : decode cX7_kindHere 24 = .ok (.iconst 1, 1) := by decide +kernel
theorem dX7_kindHere_25 : decode cX7_kindHere 25 = .ok (.goto 75, 3) := by decide +kernel
theorem dX7_kindHere_28 : decode cX7_kindHere 28 = .ok (.aload_n 0, 1) := by decide +kernel
theorem dX7_kindHere_29 : decode cX7_kindHere 29 = .ok (.ldc2_w 238, 3) := by decide +kernel
theorem dX7_kindHere_32 : decode cX7_kindHere 32 = .ok (.invokevirtual 232, 3) := by decide +kernel
theorem dX7_kindHere_35 : decode cX7_kindHere 35 = .ok (.ifCond .eq 7, 3) := by decide +kernel
theorem dX7_kindHere_38 : decode cX7_kindHere 38 = .ok (.iconst 2, 1) := by decide +kernel
theorem dX7_kindHere_39 : decode cX7_kindHere 39 = .ok (.goto 61, 3) := by decide +kernel
theorem dX7_kindHere_42 : decode cX7_kindHere 42 = .ok (.aload_n 0, 1) := by decide +kernel
theorem dX7_kindHere_43 : decode cX7_kindHere 43 = .ok (.ldc2_w 240, 3) := by decide +kernel
theorem dX7_kindHere_46 : decode cX7_kindHere 46 = .ok (.invokevirtual 232, 3) := by decide +kernel
theorem dX7_kindHere_49 : decode cX7_kindHere 49 = .ok (.ifCond .eq 7, 3) := by decide +kernel
theorem dX7_kindHere_52 : decode cX7_kindHere 52 = .ok (.iconst 3, 1) := by decide +kernel
theorem dX7_kindHere_53 : decode cX7_kindHere 53 = .ok (.goto 47, 3) := by decide +kernel
theorem dX7_kindHere_56 : decode cX7_kindHere 56 = .ok (.aload_n 0, 1) := by decide +kernel
theorem dX7_kindHere_57 : decode cX7_kindHere 57 = .ok (.ldc2_w 242, 3) := by decide +kernel
theorem dX7_kindHere_60 : decode cX7_kindHere 60 = .ok (.invokevirtual 232, 3) := by decide +kernel
theorem dX7_kindHere_63 : decode cX7_kindHere 63 = .ok (.ifCond .eq 7, 3) := by decide +kernel
theorem dX7_kindHere_66 : decode cX7_kindHere 66 = .ok (.iconst 4, 1) := by decide +kernel
theorem dX7_kindHere_67 : decode cX7_kindHere 67 = .ok (.goto 33, 3) := by decide +kernel
theorem dX7_kindHere_70 : decode cX7_kindHere 70 = .ok (.aload_n 0, 1) := by decide +kernel
theorem dX7_kindHere_71 : decode cX7_kindHere 71 = .ok (.ldc2_w 244, 3) := by decide +kernel
theorem dX7_kindHere_74 : decode cX7_kindHere 74 = .ok (.invokevirtual 232, 3) := by decide +kernel
theorem dX7_kindHere_77 : decode cX7_kindHere 77 = .ok (.ifCond .eq 7, 3) := by decide +kernel
theorem dX7_kindHere_80 : decode cX7_kindHere 80 = .ok (.iconst 5, 1) := by decide +kernel
theorem dX7_kindHere_81 : decode cX7_kindHere 81 = .ok (.goto 19, 3) := by decide +kernel
theorem dX7_kindHere_84 : decode cX7_kindHere 84 = .ok (.aload_n 0, 1) := by decide +kernel
theorem dX7_kindHere_85 : decode cX7_kindHere 85 = .ok (.ldc2_w 246, 3) := by decide +kernel
theorem dX7_kindHere_88 : decode cX7_kindHere 88 = .ok (.invokevirtual 232, 3) := by decide +kernel
theorem dX7_kindHere_91 : decode cX7_kindHere 91 = .ok (.ifCond .eq 8, 3) := by decide +kernel
theorem dX7_kindHere_94 : decode cX7_kindHere 94 = .ok (.bipush 6, 2) := by decide +kernel
theorem dX7_kindHere_96 : decode cX7_kindHere 96 = .ok (.goto 4, 3) := by decide +kernel
theorem dX7_kindHere_99 : decode cX7_kindHere 99 = .ok (.iconst (-1), 1) := by decide +kernel
theorem dX7_kindHere_100 : decode cX7_kindHere 100 = .ok (.ireturn, 1) := by decide +kernel
theorem dX7_numberHere_0 : decode cX7_numberHere 0 = .ok (.aload_n 0, 1) := by decide +kernel
theorem dX7_numberHere_1 : decode cX7_numberHere 1 = .ok (.getfield 204, 3) := by decide +kernel
theorem dX7_numberHere_4 : decode cX7_numberHere 4 = .ok (.l2i, 1) := by decide +kernel
theorem dX7_numberHere_5 : decode cX7_numberHere 5 = .ok (.istore_n 2, 1) := by decide +kernel
theorem dX7_numberHere_6 : decode cX7_numberHere 6 = .ok (.aload_n 0, 1) := by decide +kernel
theorem dX7_numberHere_7 : decode cX7_numberHere 7 = .ok (.getfield 208, 3) := by decide +kernel
theorem dX7_numberHere_10 : decode cX7_numberHere 10 = .ok (.iconst 2, 1) := by decide +kernel
theorem dX7_numberHere_11 : decode cX7_numberHere 11 = .ok (.if_icmp .ne 13, 3) := by decide +kernel
theorem dX7_numberHere_14 : decode cX7_numberHere 14 = .ok (.aload_n 0, 1) := by decide +kernel
theorem dX7_numberHere_15 : decode cX7_numberHere 15 = .ok (.getfield 204, 3) := by decide +kernel
theorem dX7_numberHere_18 : decode cX7_numberHere 18 = .ok (.iload_n 1, 1) := by decide +kernel
theorem dX7_numberHere_19 : decode cX7_numberHere 19 = .ok (.i2l, 1) := by decide +kernel
theorem dX7_numberHere_20 : decode cX7_numberHere 20 = .ok (.lcmp, 1) := by decide +kernel
theorem dX7_numberHere_21 : decode cX7_numberHere 21 = .ok (.ifCond .le 9, 3) := by decide +kernel
theorem dX7_numberHere_24 : decode cX7_numberHere 24 = .ok (.aload_n 0, 1) := by decide +kernel
theorem dX7_numberHere_25 : decode cX7_numberHere 25 = .ok (.invokevirtual 248, 3) := by decide +kernel
theorem dX7_numberHere_28 : decode cX7_numberHere 28 = .ok (.iconst 0, 1) := by decide +kernel
theorem dX7_numberHere_29 : decode cX7_numberHere 29 = .ok (.ireturn, 1) := by decide +kernel
theorem dX7_numberHere_30 : decode cX7_numberHere 30 = .ok (.aload_n 0, 1) := by decide +kernel
theorem dX7_numberHere_31 : decode cX7_numberHere 31 = .ok (.invokevirtual 251, 3) := by decide +kernel
theorem dX7_numberHere_34 : decode cX7_numberHere 34 = .ok (.iload_n 2, 1) := by decide +kernel
theorem dX7_numberHere_35 : decode cX7_numberHere 35 = .ok (.ireturn, 1) := by decide +kernel
theorem dX7_perhaps_0 : decode cX7_perhaps 0 = .ok (.aload_n 0, 1) := by decide +kernel
theorem dX7_perhaps_1 : decode cX7_perhaps 1 = .ok (.getfield 227, 3) := by decide +kernel
theorem dX7_perhaps_4 : decode cX7_perhaps 4 = .ok (.ifCond .ge 42, 3) := by decide +kernel
theorem dX7_perhaps_7 : decode cX7_perhaps 7 = .ok (.aload_n 0, 1) := by decide +kernel
theorem dX7_perhaps_8 : decode cX7_perhaps 8 = .ok (.lload_n 1, 1) := by decide +kernel
theorem dX7_perhaps_9 : decode cX7_perhaps 9 = .ok (.invokevirtual 232, 3) := by decide +kernel
theorem dX7_perhaps_12 : decode cX7_perhaps 12 = .ok (.ifCond .eq 34, 3) := by decide +kernel
theorem dX7_perhaps_15 : decode cX7_perhaps 15 = .ok (.aload_n 0, 1) := by decide +kernel
theorem dX7_perhaps_16 : decode cX7_perhaps 16 = .ok (.invokevirtual 251, 3) := by decide +kernel
theorem dX7_perhaps_19 : decode cX7_perhaps 19 = .ok (.aload_n 0, 1) := by decide +kernel
theorem dX7_perhaps_20 : decode cX7_perhaps 20 = .ok (.iload 4, 2) := by decide +kernel
theorem dX7_perhaps_22 : decode cX7_perhaps 22 = .ok (.invokestatic 126, 3) := by decide +kernel
theorem dX7_perhaps_25 : decode cX7_perhaps 25 = .ok (.invokevirtual 254, 3) := by decide +kernel
theorem dX7_perhaps_28 : decode cX7_perhaps 28 = .ok (.istore 5, 2) := by decide +kernel
theorem dX7_perhaps_30 : decode cX7_perhaps 30 = .ok (.aload_n 0, 1) := by decide +kernel
theorem dX7_perhaps_31 : decode cX7_perhaps 31 = .ok (.getfield 227, 3) := by decide +kernel
theorem dX7_perhaps_34 : decode cX7_perhaps 34 = .ok (.ifCond .ge 12, 3) := by decide +kernel
theorem dX7_perhaps_37 : decode cX7_perhaps 37 = .ok (.aload_n 0, 1) := by decide +kernel
theorem dX7_perhaps_38 : decode cX7_perhaps 38 = .ok (.iload_n 3, 1) := by decide +kernel
theorem dX7_perhaps_39 : decode cX7_perhaps 39 = .ok (.iload 4, 2) := by decide +kernel
theorem dX7_perhaps_41 : decode cX7_perhaps 41 = .ok (.iload 5, 2) := by decide +kernel
theorem dX7_perhaps_43 : decode cX7_perhaps 43 = .ok (.invokevirtual 79, 3) := by decide +kernel
theorem dX7_perhaps_46 : decode cX7_perhaps 46 = .ok (.return_, 1) := by decide +kernel
theorem dX7_priestHere_0 : decode cX7_priestHere 0 = .ok (.aload_n 0, 1) := by decide +kernel
theorem dX7_priestHere_1 : decode cX7_priestHere 1 = .ok (.getfield 7, 3) := by decide +kernel
theorem dX7_priestHere_4 : decode cX7_priestHere 4 = .ok (.iconst 0, 1) := by decide +kernel
theorem dX7_priestHere_5 : decode cX7_priestHere 5 = .ok (.iaload, 1) := by decide +kernel
theorem dX7_priestHere_6 : decode cX7_priestHere 6 = .ok (.bipush 8, 2) := by decide +kernel
theorem dX7_priestHere_8 : decode cX7_priestHere 8 = .ok (.if_icmp .ne 8, 3) := by decide +kernel
theorem dX7_priestHere_11 : decode cX7_priestHere 11 = .ok (.aload_n 0, 1) := by decide +kernel
theorem dX7_priestHere_12 : decode cX7_priestHere 12 = .ok (.invokevirtual 248, 3) := by decide +kernel
theorem dX7_priestHere_15 : decode cX7_priestHere 15 = .ok (.return_, 1) := by decide +kernel
theorem dX7_priestHere_16 : decode cX7_priestHere 16 = .ok (.aload_n 0, 1) := by decide +kernel
theorem dX7_priestHere_17 : decode cX7_priestHere 17 = .ok (.invokevirtual 251, 3) := by decide +kernel
theorem dX7_priestHere_20 : decode cX7_priestHere 20 = .ok (.aload_n 0, 1) := by decide +kernel
theorem dX7_priestHere_21 : decode cX7_priestHere 21 = .ok (.iload_n 1, 1) := by decide +kernel
theorem dX7_priestHere_22 : decode cX7_priestHere 22 = .ok (.sipush 255, 3) := by decide +kernel
theorem dX7_priestHere_25 : decode cX7_priestHere 25 = .ok (.invokevirtual 120, 3) := by decide +kernel
theorem dX7_priestHere_28 : decode cX7_priestHere 28 = .ok (.istore_n 2, 1) := by decide +kernel
theorem dX7_priestHere_29 : decode cX7_priestHere 29 = .ok (.aload_n 0, 1) := by decide +kernel
theorem dX7_priestHere_30 : decode cX7_priestHere 30 = .ok (.ldc2_w 257, 3) := by decide +kernel
theorem dX7_priestHere_33 : decode cX7_priestHere 33 = .ok (.iload_n 2, 1) := by decide +kernel
theorem dX7_priestHere_34 : decode cX7_priestHere 34 = .ok (.iconst 2, 1) := by decide +kernel
theorem dX7_priestHere_35 : decode cX7_priestHere 35 = .ok (.invokevirtual 259, 3) := by decide +kernel
theorem dX7_priestHere_38 : decode cX7_priestHere 38 = .ok (.aload_n 0, 1) := by decide +kernel
theorem dX7_priestHere_39 : decode cX7_priestHere 39 = .ok (.ldc2_w 263, 3) := by decide +kernel
theorem dX7_priestHere_42 : decode cX7_priestHere 42 = .ok (.iload_n 2, 1) := by decide +kernel
theorem dX7_priestHere_43 : decode cX7_priestHere 43 = .ok (.iconst 3, 1) := by decide +kernel
theorem dX7_priestHere_44 : decode cX7_priestHere 44 = .ok (.invokevirtual 259, 3) := by decide +kernel
theorem dX7_priestHere_47 : decode cX7_priestHere 47 = .ok (.aload_n 0, 1) := by decide +kernel
theorem dX7_priestHere_48 : decode cX7_priestHere 48 = .ok (.ldc2_w 265, 3) := by decide +kernel
theorem dX7_priestHere_51 : decode cX7_priestHere 51 = .ok (.iload_n 2, 1) := by decide +kernel
theorem dX7_priestHere_52 : decode cX7_priestHere 52 = .ok (.iconst 1, 1) := by decide +kernel
theorem dX7_priestHere_53 : decode cX7_priestHere 53 = .ok (.invokevirtual 259, 3) := by decide +kernel
theorem dX7_priestHere_56 : decode cX7_priestHere 56 = .ok (.return_, 1) := by decide +kernel
theorem dX7_toldHere_0 : decode cX7_toldHere 0 = .ok (.aload_n 0, 1) := by decide +kernel
theorem dX7_toldHere_1 : decode cX7_toldHere 1 = .ok (.invokevirtual 251, 3) := by decide +kernel
theorem dX7_toldHere_4 : decode cX7_toldHere 4 = .ok (.aload_n 0, 1) := by decide +kernel
theorem dX7_toldHere_5 : decode cX7_toldHere 5 = .ok (.iconst 5, 1) := by decide +kernel
theorem dX7_toldHere_6 : decode cX7_toldHere 6 = .ok (.invokevirtual 254, 3) := by decide +kernel
theorem dX7_toldHere_9 : decode cX7_toldHere 9 = .ok (.istore_n 1, 1) := by decide +kernel
theorem dX7_toldHere_10 : decode cX7_toldHere 10 = .ok (.aload_n 0, 1) := by decide +kernel
theorem dX7_toldHere_11 : decode cX7_toldHere 11 = .ok (.getfield 227, 3) := by decide +kernel
theorem dX7_toldHere_14 : decode cX7_toldHere 14 = .ok (.ifCond .ge 12, 3) := by decide +kernel
theorem dX7_toldHere_17 : decode cX7_toldHere 17 = .ok (.aload_n 0, 1) := by decide +kernel
theorem dX7_toldHere_18 : decode cX7_toldHere 18 = .ok (.bipush 7, 2) := by decide +kernel
theorem dX7_toldHere_20 : decode cX7_toldHere 20 = .ok (.invokevirtual 254, 3) := by decide +kernel
theorem dX7_toldHere_23 : decode cX7_toldHere 23 = .ok (.goto 4, 3) := by decide +kernel
theorem dX7_toldHere_26 : decode cX7_toldHere 26 = .ok (.iconst 0, 1) := by decide +kernel
theorem dX7_toldHere_27 : decode cX7_toldHere 27 = .ok (.istore_n 2, 1) := by decide +kernel
theorem dX7_toldHere_28 : decode cX7_toldHere 28 = .ok (.aload_n 0, 1) := by decide +kernel
theorem dX7_toldHere_29 : decode cX7_toldHere 29 = .ok (.getfield 227, 3) := by decide +kernel
theorem dX7_toldHere_32 : decode cX7_toldHere 32 = .ok (.ifCond .ge 12, 3) := by decide +kernel
theorem dX7_toldHere_35 : decode cX7_toldHere 35 = .ok (.aload_n 0, 1) := by decide +kernel
theorem dX7_toldHere_36 : decode cX7_toldHere 36 = .ok (.bipush 40, 2) := by decide +kernel
theorem dX7_toldHere_38 : decode cX7_toldHere 38 = .ok (.invokevirtual 254, 3) := by decide +kernel
theorem dX7_toldHere_41 : decode cX7_toldHere 41 = .ok (.goto 4, 3) := by decide +kernel
theorem dX7_toldHere_44 : decode cX7_toldHere 44 = .ok (.iconst 0, 1) := by decide +kernel
theorem dX7_toldHere_45 : decode cX7_toldHere 45 = .ok (.istore_n 3, 1) := by decide +kernel
theorem dX7_toldHere_46 : decode cX7_toldHere 46 = .ok (.aload_n 0, 1) := by decide +kernel
theorem dX7_toldHere_47 : decode cX7_toldHere 47 = .ok (.getfield 227, 3) := by decide +kernel
theorem dX7_toldHere_50 : decode cX7_toldHere 50 = .ok (.ifCond .ge 18, 3) := by decide +kernel
theorem dX7_toldHere_53 : decode cX7_toldHere 53 = .ok (.aload_n 0, 1) := by decide +kernel
theorem dX7_toldHere_54 : decode cX7_toldHere 54 = .ok (.getfield 7, 3) := by decide +kernel
theorem dX7_toldHere_57 : decode cX7_toldHere 57 = .ok (.bipush 6, 2) := by decide +kernel
theorem dX7_toldHere_59 : decode cX7_toldHere 59 = .ok (.iload_n 1, 1) := by decide +kernel
theorem dX7_toldHere_60 : decode cX7_toldHere 60 = .ok (.iadd, 1) := by decide +kernel
theorem dX7_toldHere_61 : decode cX7_toldHere 61 = .ok (.bipush 100, 2) := by decide +kernel
theorem dX7_toldHere_63 : decode cX7_toldHere 63 = .ok (.iload_n 2, 1) := by decide +kernel
theorem dX7_toldHere_64 : decode cX7_toldHere 64 = .ok (.imul, 1) := by decide +kernel
theorem dX7_toldHere_65 : decode cX7_toldHere 65 = .ok (.iload_n 3, 1) := by decide +kernel
theorem dX7_toldHere_66 : decode cX7_toldHere 66 = .ok (.iadd, 1) := by decide +kernel
theorem dX7_toldHere_67 : decode cX7_toldHere 67 = .ok (.iastore, 1) := by decide +kernel
theorem dX7_toldHere_68 : decode cX7_toldHere 68 = .ok (.return_, 1) := by decide +kernel
theorem dX7_item_0 : decode cX7_item 0 = .ok (.aload_n 0, 1) := by decide +kernel
theorem dX7_item_1 : decode cX7_item 1 = .ok (.invokevirtual 267, 3) := by decide +kernel
theorem dX7_item_4 : decode cX7_item 4 = .ok (.istore_n 1, 1) := by decide +kernel
theorem dX7_item_5 : decode cX7_item 5 = .ok (.iload_n 1, 1) := by decide +kernel
theorem dX7_item_6 : decode cX7_item 6 = .ok (.ifCond .lt 11, 3) := by decide +kernel
theorem dX7_item_9 : decode cX7_item 9 = .ok (.aload_n 0, 1) := by decide +kernel
theorem dX7_item_10 : decode cX7_item 10 = .ok (.iload_n 1, 1) := by decide +kernel
theorem dX7_item_11 : decode cX7_item 11 = .ok (.invokevirtual 270, 3) := by decide +kernel
theorem dX7_item_14 : decode cX7_item 14 = .ok (.goto 83, 3) := by decide +kernel
theorem dX7_item_17 : decode cX7_item 17 = .ok (.aload_n 0, 1) := by decide +kernel
theorem dX7_item_18 : decode cX7_item 18 = .ok (.ldc2_w 273, 3) := by decide +kernel
theorem dX7_item_21 : decode cX7_item 21 = .ok (.invokevirtual 232, 3) := by decide +kernel
theorem dX7_item_24 : decode cX7_item 24 = .ok (.ifCond .eq 10, 3) := by decide +kernel
theorem dX7_item_27 : decode cX7_item 27 = .ok (.aload_n 0, 1) := by decide +kernel
theorem dX7_item_28 : decode cX7_item 28 = .ok (.invokevirtual 275, 3) := by decide +kernel
theorem dX7_item_31 : decode cX7_item 31 = .ok (.goto 66, 3) := by decide +kernel
theorem dX7_item_34 : decode cX7_item 34 = .ok (.aload_n 0, 1) := by decide +kernel
theorem dX7_item_35 : decode cX7_item 35 = .ok (.ldc2_w 278, 3) := by decide +kernel
theorem dX7_item_38 : decode cX7_item 38 = .ok (.invokevirtual 232, 3) := by decide +kernel
theorem dX7_item_41 : decode cX7_item 41 = .ok (.ifCond .eq 22, 3) := by decide +kernel
theorem dX7_item_44 : decode cX7_item 44 = .ok (.aload_n 0, 1) := by decide +kernel
theorem dX7_item_45 : decode cX7_item 45 = .ok (.invokevirtual 251, 3) := by decide +kernel
theorem dX7_item_48 : decode cX7_item 48 = .ok (.aload_n 0, 1) := by decide +kernel
theorem dX7_item_49 : decode cX7_item 49 = .ok (.getfield 7, 3) := by decide +kernel
theorem dX7_item_52 : decode cX7_item 52 = .ok (.iconst 3, 1) := by decide +kernel
theorem dX7_item_53 : decode cX7_item 53 = .ok (.aload_n 0, 1) := by decide +kernel
theorem dX7_item_54 : decode cX7_item 54 = .ok (.bipush 9, 2) := by decide +kernel
theorem dX7_item_56 : decode cX7_item 56 = .ok (.invokevirtual 254, 3) := by decide +kernel
theorem dX7_item_59 : decode cX7_item 59 = .ok (.iastore, 1) := by decide +kernel
theorem dX7_item_60 : decode cX7_item 60 = .ok (.goto 37, 3) := by decide +kernel
theorem dX7_item_63 : decode cX7_item 63 = .ok (.aload_n 0, 1) := by decide +kernel
theorem dX7_item_64 : decode cX7_item 64 = .ok (.ldc2_w 280, 3) := by decide +kernel
theorem dX7_item_67 : decode cX7_item 67 = .ok (.invokevirtual 232, 3) := by decide +kernel
theorem dX7_item_70 : decode cX7_item 70 = .ok (.ifCond .eq 23, 3) := by decide +kernel
theorem dX7_item_73 : decode cX7_item 73 = .ok (.aload_n 0, 1) := by decide +kernel
theorem dX7_item_74 : decode cX7_item 74 = .ok (.invokevirtual 251, 3) := by decide +kernel
theorem dX7_item_77 : decode cX7_item 77 = .ok (.aload_n 0, 1) := by decide +kernel
theorem dX7_item_78 : decode cX7_item 78 = .ok (.getfield 7, 3) := by decide +kernel
theorem dX7_item_81 : decode cX7_item 81 = .ok (.iconst 4, 1) := by decide +kernel
theorem dX7_item_82 : decode cX7_item 82 = .ok (.aload_n 0, 1) := by decide +kernel
theorem dX7_item_83 : decode cX7_item 83 = .ok (.sipush 255, 3) := by decide +kernel
theorem dX7_item_86 : decode cX7_item 86 = .ok (.invokevirtual 254, 3) := by decide +kernel
theorem dX7_item_89 : decode cX7_item 89 = .ok (.iastore, 1) := by decide +kernel
theorem dX7_item_90 : decode cX7_item 90 = .ok (.goto 7, 3) := by decide +kernel
theorem dX7_item_93 : decode cX7_item 93 = .ok (.aload_n 0, 1) := by decide +kernel
theorem dX7_item_94 : decode cX7_item 94 = .ok (.invokevirtual 248, 3) := by decide +kernel
theorem dX7_item_97 : decode cX7_item 97 = .ok (.return_, 1) := by decide +kernel
theorem dX7_items_0 : decode cX7_items 0 = .ok (.aload_n 0, 1) := by decide +kernel
theorem dX7_items_1 : decode cX7_items 1 = .ok (.iconst 0, 1) := by decide +kernel
theorem dX7_items_2 : decode cX7_items 2 = .ok (.putfield 195, 3) := by decide +kernel
theorem dX7_items_5 : decode cX7_items 5 = .ok (.aload_n 0, 1) := by decide +kernel
theorem dX7_items_6 : decode cX7_items 6 = .ok (.iconst (-1), 1) := by decide +kernel
theorem dX7_items_7 : decode cX7_items 7 = .ok (.putfield 227, 3) := by decide +kernel
theorem dX7_items_10 : decode cX7_items 10 = .ok (.aload_n 0, 1) := by decide +kernel
theorem dX7_items_11 : decode cX7_items 11 = .ok (.invokevirtual 251, 3) := by decide +kernel
theorem dX7_items_14 : decode cX7_items 14 = .ok (.aload_n 0, 1) := by decide +kernel
theorem dX7_items_15 : decode cX7_items 15 = .ok (.invokevirtual 282, 3) := by decide +kernel
theorem dX7_items_18 : decode cX7_items 18 = .ok (.iconst 1, 1) := by decide +kernel
theorem dX7_items_19 : decode cX7_items 19 = .ok (.istore_n 1, 1) := by decide +kernel
theorem dX7_items_20 : decode cX7_items 20 = .ok (.aload_n 0, 1) := by decide +kernel
theorem dX7_items_21 : decode cX7_items 21 = .ok (.getfield 227, 3) := by decide +kernel
theorem dX7_items_24 : decode cX7_items 24 = .ok (.ifCond .ge 25, 3) := by decide +kernel
theorem dX7_items_27 : decode cX7_items 27 = .ok (.aload_n 0, 1) := by decide +kernel
theorem dX7_items_28 : decode cX7_items 28 = .ok (.getfield 208, 3) := by decide +kernel
theorem dX7_items_31 : decode cX7_items 31 = .ok (.iconst 3, 1) := by decide +kernel
theorem dX7_items_32 : decode cX7_items 32 = .ok (.if_icmp .ne 17, 3) := by decide +kernel
theorem dX7_items_35 : decode cX7_items 35 = .ok (.aload_n 0, 1) := by decide +kernel
theorem dX7_items_36 : decode cX7_items 36 = .ok (.invokevirtual 251, 3) := by decide +kernel
theorem dX7_items_39 : decode cX7_items 39 = .ok (.aload_n 0, 1) := by decide +kernel
theorem dX7_items_40 : decode cX7_items 40 = .ok (.invokevirtual 282, 3) := by decide +kernel
theorem dX7_items_43 : decode cX7_items 43 = .ok (.iinc 1 1, 3) := by decide +kernel
theorem dX7_items_46 : decode cX7_items 46 = .ok (.goto (-26), 3) := by decide +kernel
theorem dX7_items_49 : decode cX7_items 49 = .ok (.aload_n 0, 1) := by decide +kernel
theorem dX7_items_50 : decode cX7_items 50 = .ok (.getfield 227, 3) := by decide +kernel
theorem dX7_items_53 : decode cX7_items 53 = .ok (.ifCond .ge 14, 3) := by decide +kernel
theorem dX7_items_56 : decode cX7_items 56 = .ok (.aload_n 0, 1) := by decide +kernel
theorem dX7_items_57 : decode cX7_items 57 = .ok (.getfield 208, 3) := by decide +kernel
theorem dX7_items_60 : decode cX7_items 60 = .ok (.ifCond .eq 7, 3) := by decide +kernel
theorem dX7_items_63 : decode cX7_items 63 = .ok (.aload_n 0, 1) := by decide +kernel
theorem dX7_items_64 : decode cX7_items 64 = .ok (.invokevirtual 248, 3) := by decide +kernel
theorem dX7_items_67 : decode cX7_items 67 = .ok (.iload_n 1, 1) := by decide +kernel
theorem dX7_items_68 : decode cX7_items 68 = .ok (.ireturn, 1) := by decide +kernel
theorem dX7_text_0 : decode cX7_text 0 = .ok (.aload_n 0, 1) := by decide +kernel
theorem dX7_text_1 : decode cX7_text 1 = .ok (.getfield 7, 3) := by decide +kernel
theorem dX7_text_4 : decode cX7_text 4 = .ok (.aload_n 0, 1) := by decide +kernel
theorem dX7_text_5 : decode cX7_text 5 = .ok (.getfield 13, 3) := by decide +kernel
theorem dX7_text_8 : decode cX7_text 8 = .ok (.invokestatic 146, 3) := by decide +kernel
theorem dX7_text_11 : decode cX7_text 11 = .ok (.aload_n 0, 1) := by decide +kernel
theorem dX7_text_12 : decode cX7_text 12 = .ok (.invokevirtual 285, 3) := by decide +kernel
theorem dX7_text_15 : decode cX7_text 15 = .ok (.istore_n 1, 1) := by decide +kernel
theorem dX7_text_16 : decode cX7_text 16 = .ok (.aload_n 0, 1) := by decide +kernel
theorem dX7_text_17 : decode cX7_text 17 = .ok (.iconst 0, 1) := by decide +kernel
theorem dX7_text_18 : decode cX7_text 18 = .ok (.putfield 191, 3) := by decide +kernel
theorem dX7_text_21 : decode cX7_text 21 = .ok (.aload_n 0, 1) := by decide +kernel
theorem dX7_text_22 : decode cX7_text 22 = .ok (.getfield 227, 3) := by decide +kernel
theorem dX7_text_25 : decode cX7_text 25 = .ok (.ifCond .lt 21, 3) := by decide +kernel
theorem dX7_text_28 : decode cX7_text 28 = .ok (.aload_n 0, 1) := by decide +kernel
theorem dX7_text_29 : decode cX7_text 29 = .ok (.getfield 13, 3) := by decide +kernel
theorem dX7_text_32 : decode cX7_text 32 = .ok (.aload_n 0, 1) := by decide +kernel
theorem dX7_text_33 : decode cX7_text 33 = .ok (.getfield 7, 3) := by decide +kernel
theorem dX7_text_36 : decode cX7_text 36 = .ok (.invokestatic 146, 3) := by decide +kernel
theorem dX7_text_39 : decode cX7_text 39 = .ok (.iconst (-1), 1) := by decide +kernel
theorem dX7_text_40 : decode cX7_text 40 = .ok (.aload_n 0, 1) := by decide +kernel
theorem dX7_text_41 : decode cX7_text 41 = .ok (.getfield 227, 3) := by decide +kernel
theorem dX7_text_44 : decode cX7_text 44 = .ok (.isub, 1) := by decide +kernel
theorem dX7_text_45 : decode cX7_text 45 = .ok (.ireturn, 1) := by decide +kernel
theorem dX7_text_46 : decode cX7_text 46 = .ok (.iload_n 1, 1) := by decide +kernel
theorem dX7_text_47 : decode cX7_text 47 = .ok (.ireturn, 1) := by decide +kernel
theorem dX7_hold_0 : decode cX7_hold 0 = .ok (.iload_n 1, 1) := by decide +kernel
theorem dX7_hold_1 : decode cX7_hold 1 = .ok (.i2l, 1) := by decide +kernel
theorem dX7_hold_2 : decode cX7_hold 2 = .ok (.lconst 0, 1) := by decide +kernel
theorem dX7_hold_3 : decode cX7_hold 3 = .ok (.ldc2_w 101, 3) := by decide +kernel
theorem dX7_hold_6 : decode cX7_hold 6 = .ok (.invokestatic 42, 3) := by decide +kernel
theorem dX7_hold_9 : decode cX7_hold 9 = .ok (.ifCond .eq 23, 3) := by decide +kernel
theorem dX7_hold_12 : decode cX7_hold 12 = .ok (.iload_n 2, 1) := by decide +kernel
theorem dX7_hold_13 : decode cX7_hold 13 = .ok (.i2l, 1) := by decide +kernel
theorem dX7_hold_14 : decode cX7_hold 14 = .ok (.ldc2_w 288, 3) := by decide +kernel
theorem dX7_hold_17 : decode cX7_hold 17 = .ok (.aload_n 0, 1) := by decide +kernel
theorem dX7_hold_18 : decode cX7_hold 18 = .ok (.getfield 7, 3) := by decide +kernel
theorem dX7_hold_21 : decode cX7_hold 21 = .ok (.iconst 0, 1) := by decide +kernel
theorem dX7_hold_22 : decode cX7_hold 22 = .ok (.iaload, 1) := by decide +kernel
theorem dX7_hold_23 : decode cX7_hold 23 = .ok (.iconst 1, 1) := by decide +kernel
theorem dX7_hold_24 : decode cX7_hold 24 = .ok (.isub, 1) := by decide +kernel
theorem dX7_hold_25 : decode cX7_hold 25 = .ok (.i2l, 1) := by decide +kernel
theorem dX7_hold_26 : decode cX7_hold 26 = .ok (.invokestatic 42, 3) := by decide +kernel
theorem dX7_hold_29 : decode cX7_hold 29 = .ok (.ifCond .ne 9, 3) := by decide +kernel
theorem dX7_hold_32 : decode cX7_hold 32 = .ok (.aload_n 0, 1) := by decide +kernel
theorem dX7_hold_33 : decode cX7_hold 33 = .ok (.iconst 0, 1) := by decide +kernel
theorem dX7_hold_34 : decode cX7_hold 34 = .ok (.invokevirtual 109, 3) := by decide +kernel
theorem dX7_hold_37 : decode cX7_hold 37 = .ok (.ireturn, 1) := by decide +kernel
theorem dX7_hold_38 : decode cX7_hold 38 = .ok (.aload_n 0, 1) := by decide +kernel
theorem dX7_hold_39 : decode cX7_hold 39 = .ok (.getfield 7, 3) := by decide +kernel
theorem dX7_hold_42 : decode cX7_hold 42 = .ok (.bipush 60, 2) := by decide +kernel
theorem dX7_hold_44 : decode cX7_hold 44 = .ok (.iload_n 1, 1) := by decide +kernel
theorem dX7_hold_45 : decode cX7_hold 45 = .ok (.iadd, 1) := by decide +kernel
theorem dX7_hold_46 : decode cX7_hold 46 = .ok (.iload_n 2, 1) := by decide +kernel
theorem dX7_hold_47 : decode cX7_hold 47 = .ok (.iconst 1, 1) := by decide +kernel
theorem dX7_hold_48 : decode cX7_hold 48 = .ok (.iadd, 1) := by decide +kernel
theorem dX7_hold_49 : decode cX7_hold 49 = .ok (.iastore, 1) := by decide +kernel
theorem dX7_hold_50 : decode cX7_hold 50 = .ok (.iconst 1, 1) := by decide +kernel
theorem dX7_hold_51 : decode cX7_hold 51 = .ok (.ireturn, 1) := by decide +kernel
theorem dX7_above_0 : decode cX7_above 0 = .ok (.iload_n 0, 1) := by decide +kernel
theorem dX7_above_1 : decode cX7_above 1 = .ok (.iconst 3, 1) := by decide +kernel
theorem dX7_above_2 : decode cX7_above 2 = .ok (.if_icmp .ne 7, 3) := by decide +kernel
theorem dX7_above_5 : decode cX7_above 5 = .ok (.iconst 1, 1) := by decide +kernel
theorem dX7_above_6 : decode cX7_above 6 = .ok (.goto 23, 3) := by decide +kernel
theorem dX7_above_9 : decode cX7_above 9 = .ok (.iload_n 0, 1) := by decide +kernel
theorem dX7_above_10 : decode cX7_above 10 = .ok (.iconst 4, 1) := by decide +kernel
theorem dX7_above_11 : decode cX7_above 11 = .ok (.if_icmp .ne 7, 3) := by decide +kernel
theorem dX7_above_14 : decode cX7_above 14 = .ok (.iconst 3, 1) := by decide +kernel
theorem dX7_above_15 : decode cX7_above 15 = .ok (.goto 14, 3) := by decide +kernel
theorem dX7_above_18 : decode cX7_above 18 = .ok (.iload_n 0, 1) := by decide +kernel
theorem dX7_above_19 : decode cX7_above 19 = .ok (.bipush 6, 2) := by decide +kernel
theorem dX7_above_21 : decode cX7_above 21 = .ok (.if_icmp .ne 7, 3) := by decide +kernel
theorem dX7_above_24 : decode cX7_above 24 = .ok (.iconst 2, 1) := by decide +kernel
theorem dX7_above_25 : decode cX7_above 25 = .ok (.goto 4, 3) := by decide +kernel
theorem dX7_above_28 : decode cX7_above 28 = .ok (.iconst 0, 1) := by decide +kernel
theorem dX7_above_29 : decode cX7_above 29 = .ok (.ireturn, 1) := by decide +kernel
theorem dX7_as_0 : decode cX7_as 0 = .ok (.iload_n 1, 1) := by decide +kernel
theorem dX7_as_1 : decode cX7_as 1 = .ok (.i2l, 1) := by decide +kernel
theorem dX7_as_2 : decode cX7_as 2 = .ok (.lconst 0, 1) := by decide +kernel
theorem dX7_as_3 : decode cX7_as 3 = .ok (.ldc2_w 101, 3) := by decide +kernel
theorem dX7_as_6 : decode cX7_as 6 = .ok (.invokestatic 42, 3) := by decide +kernel
theorem dX7_as_9 : decode cX7_as 9 = .ok (.ifCond .eq 15, 3) := by decide +kernel
theorem dX7_as_12 : decode cX7_as 12 = .ok (.iload_n 2, 1) := by decide +kernel
theorem dX7_as_13 : decode cX7_as 13 = .ok (.i2l, 1) := by decide +kernel
theorem dX7_as_14 : decode cX7_as 14 = .ok (.lconst 0, 1) := by decide +kernel
theorem dX7_as_15 : decode cX7_as 15 = .ok (.ldc2_w 118, 3) := by decide +kernel
theorem dX7_as_18 : decode cX7_as 18 = .ok (.invokestatic 42, 3) := by decide +kernel
theorem dX7_as_21 : decode cX7_as 21 = .ok (.ifCond .ne 9, 3) := by decide +kernel
theorem dX7_as_24 : decode cX7_as 24 = .ok (.aload_n 0, 1) := by decide +kernel
theorem dX7_as_25 : decode cX7_as 25 = .ok (.iconst 0, 1) := by decide +kernel
theorem dX7_as_26 : decode cX7_as 26 = .ok (.invokevirtual 109, 3) := by decide +kernel
theorem dX7_as_29 : decode cX7_as 29 = .ok (.ireturn, 1) := by decide +kernel
theorem dX7_as_30 : decode cX7_as 30 = .ok (.aload_n 0, 1) := by decide +kernel
theorem dX7_as_31 : decode cX7_as 31 = .ok (.getfield 7, 3) := by decide +kernel
theorem dX7_as_34 : decode cX7_as 34 = .ok (.bipush 60, 2) := by decide +kernel
theorem dX7_as_36 : decode cX7_as 36 = .ok (.iload_n 1, 1) := by decide +kernel
theorem dX7_as_37 : decode cX7_as 37 = .ok (.iadd, 1) := by decide +kernel
theorem dX7_as_38 : decode cX7_as 38 = .ok (.iaload, 1) := by decide +kernel
theorem dX7_as_39 : decode cX7_as 39 = .ok (.ifCond .ne 9, 3) := by decide +kernel
theorem dX7_as_42 : decode cX7_as 42 = .ok (.aload_n 0, 1) := by decide +kernel
theorem dX7_as_43 : decode cX7_as 43 = .ok (.iconst 5, 1) := by decide +kernel
theorem dX7_as_44 : decode cX7_as 44 = .ok (.invokevirtual 109, 3) := by decide +kernel
theorem dX7_as_47 : decode cX7_as 47 = .ok (.ireturn, 1) := by decide +kernel
theorem dX7_as_48 : decode cX7_as 48 = .ok (.aload_n 0, 1) := by decide +kernel
theorem dX7_as_49 : decode cX7_as 49 = .ok (.getfield 7, 3) := by decide +kernel
theorem dX7_as_52 : decode cX7_as 52 = .ok (.bipush 60, 2) := by decide +kernel
theorem dX7_as_54 : decode cX7_as 54 = .ok (.iload_n 1, 1) := by decide +kernel
theorem dX7_as_55 : decode cX7_as 55 = .ok (.iadd, 1) := by decide +kernel
theorem dX7_as_56 : decode cX7_as 56 = .ok (.iaload, 1) := by decide +kernel
theorem dX7_as_57 : decode cX7_as 57 = .ok (.iconst 1, 1) := by decide +kernel
theorem dX7_as_58 : decode cX7_as 58 = .ok (.isub, 1) := by decide +kernel
theorem dX7_as_59 : decode cX7_as 59 = .ok (.istore_n 3, 1) := by decide +kernel
theorem dX7_as_60 : decode cX7_as 60 = .ok (.aload_n 0, 1) := by decide +kernel
theorem dX7_as_61 : decode cX7_as 61 = .ok (.iload_n 3, 1) := by decide +kernel
theorem dX7_as_62 : decode cX7_as 62 = .ok (.iconst 0, 1) := by decide +kernel
theorem dX7_as_63 : decode cX7_as 63 = .ok (.invokevirtual 54, 3) := by decide +kernel
theorem dX7_as_66 : decode cX7_as 66 = .ok (.istore 4, 2) := by decide +kernel
theorem dX7_as_68 : decode cX7_as 68 = .ok (.iload_n 2, 1) := by decide +kernel
theorem dX7_as_69 : decode cX7_as 69 = .ok (.ifCond .eq 30, 3) := by decide +kernel
theorem dX7_as_72 : decode cX7_as 72 = .ok (.iload_n 2, 1) := by decide +kernel
theorem dX7_as_73 : decode cX7_as 73 = .ok (.iload 4, 2) := by decide +kernel
theorem dX7_as_75 : decode cX7_as 75 = .ok (.if_icmp .eq 24, 3) := by decide +kernel
theorem dX7_as_78 : decode cX7_as 78 = .ok (.iload_n 2, 1) := by decide +kernel
theorem dX7_as_79 : decode cX7_as 79 = .ok (.iload 4, 2) := by decide +kernel
theorem dX7_as_81 : decode cX7_as 81 = .ok (.invokestatic 290, 3) := by decide +kernel
theorem dX7_as_84 : decode cX7_as 84 = .ok (.if_icmp .eq 15, 3) := by decide +kernel
theorem dX7_as_87 : decode cX7_as 87 = .ok (.iload_n 2, 1) := by decide +kernel
theorem dX7_as_88 : decode cX7_as 88 = .ok (.iload 4, 2) := by decide +kernel
theorem dX7_as_90 : decode cX7_as 90 = .ok (.invokestatic 290, 3) := by decide +kernel
theorem dX7_as_93 : decode cX7_as 93 = .ok (.invokestatic 290, 3) := by decide +kernel
theorem dX7_as_96 : decode cX7_as 96 = .ok (.if_icmp .ne 7, 3) := by decide +kernel
theorem dX7_as_99 : decode cX7_as 99 = .ok (.iload_n 3, 1) := by decide +kernel
theorem dX7_as_100 : decode cX7_as 100 = .ok (.goto 8, 3) := by decide +kernel
theorem dX7_as_103 : decode cX7_as 103 = .ok (.aload_n 0, 1) := by decide +kernel
theorem dX7_as_104 : decode cX7_as 104 = .ok (.iconst 2, 1) := by decide +kernel
theorem dX7_as_105 : decode cX7_as 105 = .ok (.invokevirtual 109, 3) := by decide +kernel
theorem dX7_as_108 : decode cX7_as 108 = .ok (.ireturn, 1) := by decide +kernel
theorem dX7_isSheet_0 : decode cX7_isSheet 0 = .ok (.iload_n 0, 1) := by decide +kernel
theorem dX7_isSheet_1 : decode cX7_isSheet 1 = .ok (.i2l, 1) := by decide +kernel
theorem dX7_isSheet_2 : decode cX7_isSheet 2 = .ok (.lconst 0, 1) := by decide +kernel
theorem dX7_isSheet_3 : decode cX7_isSheet 3 = .ok (.ldc2_w 293, 3) := by decide +kernel
theorem dX7_isSheet_6 : decode cX7_isSheet 6 = .ok (.invokestatic 42, 3) := by decide +kernel
theorem dX7_isSheet_9 : decode cX7_isSheet 9 = .ok (.ireturn, 1) := by decide +kernel
theorem dX7_sheet_0 : decode cX7_sheet 0 = .ok (.iload_n 1, 1) := by decide +kernel
theorem dX7_sheet_1 : decode cX7_sheet 1 = .ok (.invokestatic 295, 3) := by decide +kernel
theorem dX7_sheet_4 : decode cX7_sheet 4 = .ok (.ifCond .eq 25, 3) := by decide +kernel
theorem dX7_sheet_7 : decode cX7_sheet 7 = .ok (.iload_n 2, 1) := by decide +kernel
theorem dX7_sheet_8 : decode cX7_sheet 8 = .ok (.ifCond .eq 27, 3) := by decide +kernel
theorem dX7_sheet_11 : decode cX7_sheet 11 = .ok (.iload_n 2, 1) := by decide +kernel
theorem dX7_sheet_12 : decode cX7_sheet 12 = .ok (.bipush 8, 2) := by decide +kernel
theorem dX7_sheet_14 : decode cX7_sheet 14 = .ok (.if_icmp .eq 21, 3) := by decide +kernel
theorem dX7_sheet_17 : decode cX7_sheet 17 = .ok (.iload_n 2, 1) := by decide +kernel
theorem dX7_sheet_18 : decode cX7_sheet 18 = .ok (.bipush 16, 2) := by decide +kernel
theorem dX7_sheet_20 : decode cX7_sheet 20 = .ok (.if_icmp .eq 15, 3) := by decide +kernel
theorem dX7_sheet_23 : decode cX7_sheet 23 = .ok (.iload_n 2, 1) := by decide +kernel
theorem dX7_sheet_24 : decode cX7_sheet 24 = .ok (.bipush 32, 2) := by decide +kernel
theorem dX7_sheet_26 : decode cX7_sheet 26 = .ok (.if_icmp .eq 9, 3) := by decide +kernel
theorem dX7_sheet_29 : decode cX7_sheet 29 = .ok (.aload_n 0, 1) := by decide +kernel
theorem dX7_sheet_30 : decode cX7_sheet 30 = .ok (.iconst 0, 1) := by decide +kernel
theorem dX7_sheet_31 : decode cX7_sheet 31 = .ok (.invokevirtual 109, 3) := by decide +kernel
theorem dX7_sheet_34 : decode cX7_sheet 34 = .ok (.ireturn, 1) := by decide +kernel
theorem dX7_sheet_35 : decode cX7_sheet 35 = .ok (.iload_n 3, 1) := by decide +kernel
theorem dX7_sheet_36 : decode cX7_sheet 36 = .ok (.ifCond .ge 10, 3) := by decide +kernel
theorem dX7_sheet_39 : decode cX7_sheet 39 = .ok (.aload_n 0, 1) := by decide +kernel
theorem dX7_sheet_40 : decode cX7_sheet 40 = .ok (.bipush 6, 2) := by decide +kernel
theorem dX7_sheet_42 : decode cX7_sheet 42 = .ok (.invokevirtual 109, 3) := by decide +kernel
theorem dX7_sheet_45 : decode cX7_sheet 45 = .ok (.ireturn, 1) := by decide +kernel
theorem dX7_sheet_46 : decode cX7_sheet 46 = .ok (.iload_n 3, 1) := by decide +kernel
theorem dX7_sheet_47 : decode cX7_sheet 47 = .ok (.bipush 40, 2) := by decide +kernel
theorem dX7_sheet_49 : decode cX7_sheet 49 = .ok (.if_icmp .le 9, 3) := by decide +kernel
theorem dX7_sheet_52 : decode cX7_sheet 52 = .ok (.aload_n 0, 1) := by decide +kernel
theorem dX7_sheet_53 : decode cX7_sheet 53 = .ok (.iconst 0, 1) := by decide +kernel
theorem dX7_sheet_54 : decode cX7_sheet 54 = .ok (.invokevirtual 109, 3) := by decide +kernel
theorem dX7_sheet_57 : decode cX7_sheet 57 = .ok (.ireturn, 1) := by decide +kernel
theorem dX7_sheet_58 : decode cX7_sheet 58 = .ok (.aload_n 0, 1) := by decide +kernel
theorem dX7_sheet_59 : decode cX7_sheet 59 = .ok (.getfield 29, 3) := by decide +kernel
theorem dX7_sheet_62 : decode cX7_sheet 62 = .ok (.iload_n 1, 1) := by decide +kernel
theorem dX7_sheet_63 : decode cX7_sheet 63 = .ok (.iload_n 2, 1) := by decide +kernel
theorem dX7_sheet_64 : decode cX7_sheet 64 = .ok (.iastore, 1) := by decide +kernel
theorem dX7_sheet_65 : decode cX7_sheet 65 = .ok (.aload_n 0, 1) := by decide +kernel
theorem dX7_sheet_66 : decode cX7_sheet 66 = .ok (.getfield 32, 3) := by decide +kernel
theorem dX7_sheet_69 : decode cX7_sheet 69 = .ok (.iload_n 1, 1) := by decide +kernel
theorem dX7_sheet_70 : decode cX7_sheet 70 = .ok (.iload_n 2, 1) := by decide +kernel
theorem dX7_sheet_71 : decode cX7_sheet 71 = .ok (.ifCond .ne 7, 3) := by decide +kernel
theorem dX7_sheet_74 : decode cX7_sheet 74 = .ok (.iconst 0, 1) := by decide +kernel
theorem dX7_sheet_75 : decode cX7_sheet 75 = .ok (.goto 4, 3) := by decide +kernel
theorem dX7_sheet_78 : decode cX7_sheet 78 = .ok (.iload_n 3, 1) := by decide +kernel
theorem dX7_sheet_79 : decode cX7_sheet 79 = .ok (.iastore, 1) := by decide +kernel
theorem dX7_sheet_80 : decode cX7_sheet 80 = .ok (.iconst 0, 1) := by decide +kernel
theorem dX7_sheet_81 : decode cX7_sheet 81 = .ok (.istore 4, 2) := by decide +kernel
theorem dX7_sheet_83 : decode cX7_sheet 83 = .ok (.iload 4, 2) := by decide +kernel
theorem dX7_sheet_85 : decode cX7_sheet 85 = .ok (.bipush 40, 2) := by decide +kernel
theorem dX7_sheet_87 : decode cX7_sheet 87 = .ok (.if_icmp .ge 22, 3) := by decide +kernel
theorem dX7_sheet_90 : decode cX7_sheet 90 = .ok (.aload_n 0, 1) := by decide +kernel
theorem dX7_sheet_91 : decode cX7_sheet 91 = .ok (.getfield 35, 3) := by decide +kernel
theorem dX7_sheet_94 : decode cX7_sheet 94 = .ok (.bipush 40, 2) := by decide +kernel
theorem dX7_sheet_96 : decode cX7_sheet 96 = .ok (.iload_n 1, 1) := by decide +kernel
theorem dX7_sheet_97 : decode cX7_sheet 97 = .ok (.imul, 1) := by decide +kernel
theorem dX7_sheet_98 : decode cX7_sheet 98 = .ok (.iload 4, 2) := by decide +kernel
theorem dX7_sheet_100 : decode cX7_sheet 100 = .ok (.iadd, 1) := by decide +kernel
theorem dX7_sheet_101 : decode cX7_sheet 101 = .ok (.iconst 0, 1) := by decide +kernel
theorem dX7_sheet_102 : decode cX7_sheet 102 = .ok (.iastore, 1) := by decide +kernel
theorem dX7_sheet_103 : decode cX7_sheet 103 = .ok (.iinc 4 1, 3) := by decide +kernel
theorem dX7_sheet_106 : decode cX7_sheet 106 = .ok (.goto (-23), 3) := by decide +kernel
theorem dX7_sheet_109 : decode cX7_sheet 109 = .ok (.aload_n 0, 1) := by decide +kernel
theorem dX7_sheet_110 : decode cX7_sheet 110 = .ok (.getfield 32, 3) := by decide +kernel
theorem dX7_sheet_113 : decode cX7_sheet 113 = .ok (.iload_n 1, 1) := by decide +kernel
theorem dX7_sheet_114 : decode cX7_sheet 114 = .ok (.iaload, 1) := by decide +kernel
theorem dX7_sheet_115 : decode cX7_sheet 115 = .ok (.ireturn, 1) := by decide +kernel
theorem dX7_whyNone_0 : decode cX7_whyNone 0 = .ok (.iload_n 1, 1) := by decide +kernel
theorem dX7_whyNone_1 : decode cX7_whyNone 1 = .ok (.invokestatic 295, 3) := by decide +kernel
theorem dX7_whyNone_4 : decode cX7_whyNone 4 = .ok (.ifCond .ne 7, 3) := by decide +kernel
theorem dX7_whyNone_7 : decode cX7_whyNone 7 = .ok (.iconst 0, 1) := by decide +kernel
theorem dX7_whyNone_8 : decode cX7_whyNone 8 = .ok (.goto 17, 3) := by decide +kernel
theorem dX7_whyNone_11 : decode cX7_whyNone 11 = .ok (.aload_n 0, 1) := by decide +kernel
theorem dX7_whyNone_12 : decode cX7_whyNone 12 = .ok (.getfield 29, 3) := by decide +kernel
theorem dX7_whyNone_15 : decode cX7_whyNone 15 = .ok (.iload_n 1, 1) := by decide +kernel
theorem dX7_whyNone_16 : decode cX7_whyNone 16 = .ok (.iaload, 1) := by decide +kernel
theorem dX7_whyNone_17 : decode cX7_whyNone 17 = .ok (.ifCond .ne 7, 3) := by decide +kernel
theorem dX7_whyNone_20 : decode cX7_whyNone 20 = .ok (.iconst 5, 1) := by decide +kernel
theorem dX7_whyNone_21 : decode cX7_whyNone 21 = .ok (.goto 4, 3) := by decide +kernel
theorem dX7_whyNone_24 : decode cX7_whyNone 24 = .ok (.iconst (-1), 1) := by decide +kernel
theorem dX7_whyNone_25 : decode cX7_whyNone 25 = .ok (.ireturn, 1) := by decide +kernel
theorem dX7_write_0 : decode cX7_write 0 = .ok (.aload_n 0, 1) := by decide +kernel
theorem dX7_write_1 : decode cX7_write 1 = .ok (.iload_n 1, 1) := by decide +kernel
theorem dX7_write_2 : decode cX7_write 2 = .ok (.invokevirtual 171, 3) := by decide +kernel
theorem dX7_write_5 : decode cX7_write 5 = .ok (.istore 4, 2) := by decide +kernel
theorem dX7_write_7 : decode cX7_write 7 = .ok (.iload 4, 2) := by decide +kernel
theorem dX7_write_9 : decode cX7_write 9 = .ok (.ifCond .ge 25, 3) := by decide +kernel
theorem dX7_write_12 : decode cX7_write 12 = .ok (.iload_n 2, 1) := by decide +kernel
theorem dX7_write_13 : decode cX7_write 13 = .ok (.i2l, 1) := by decide +kernel
theorem dX7_write_14 : decode cX7_write 14 = .ok (.lconst 0, 1) := by decide +kernel
theorem dX7_write_15 : decode cX7_write 15 = .ok (.aload_n 0, 1) := by decide +kernel
theorem dX7_write_16 : decode cX7_write 16 = .ok (.getfield 32, 3) := by decide +kernel
theorem dX7_write_19 : decode cX7_write 19 = .ok (.iload_n 1, 1) := by decide +kernel
theorem dX7_write_20 : decode cX7_write 20 = .ok (.iaload, 1) := by decide +kernel
theorem dX7_write_21 : decode cX7_write 21 = .ok (.iconst 1, 1) := by decide +kernel
theorem dX7_write_22 : decode cX7_write 22 = .ok (.isub, 1) := by decide +kernel
theorem dX7_write_23 : decode cX7_write 23 = .ok (.i2l, 1) := by decide +kernel
theorem dX7_write_24 : decode cX7_write 24 = .ok (.invokestatic 42, 3) := by decide +kernel
theorem dX7_write_27 : decode cX7_write 27 = .ok (.ifCond .ne 7, 3) := by decide +kernel
theorem dX7_write_30 : decode cX7_write 30 = .ok (.iconst 0, 1) := by decide +kernel
theorem dX7_write_31 : decode cX7_write 31 = .ok (.goto 5, 3) := by decide +kernel
theorem dX7_write_34 : decode cX7_write 34 = .ok (.iload 4, 2) := by decide +kernel
theorem dX7_write_36 : decode cX7_write 36 = .ok (.istore 4, 2) := by decide +kernel
theorem dX7_write_38 : decode cX7_write 38 = .ok (.iload 4, 2) := by decide +kernel
theorem dX7_write_40 : decode cX7_write 40 = .ok (.ifCond .lt 10, 3) := by decide +kernel
theorem dX7_write_43 : decode cX7_write 43 = .ok (.aload_n 0, 1) := by decide +kernel
theorem dX7_write_44 : decode cX7_write 44 = .ok (.iload 4, 2) := by decide +kernel
theorem dX7_write_46 : decode cX7_write 46 = .ok (.invokevirtual 109, 3) := by decide +kernel
theorem dX7_write_49 : decode cX7_write 49 = .ok (.ireturn, 1) := by decide +kernel
theorem dX7_write_50 : decode cX7_write 50 = .ok (.aload_n 0, 1) := by decide +kernel
theorem dX7_write_51 : decode cX7_write 51 = .ok (.getfield 35, 3) := by decide +kernel
theorem dX7_write_54 : decode cX7_write 54 = .ok (.bipush 40, 2) := by decide +kernel
theorem dX7_write_56 : decode cX7_write 56 = .ok (.iload_n 1, 1) := by decide +kernel
theorem dX7_write_57 : decode cX7_write 57 = .ok (.imul, 1) := by decide +kernel
theorem dX7_write_58 : decode cX7_write 58 = .ok (.iload_n 2, 1) := by decide +kernel
theorem dX7_write_59 : decode cX7_write 59 = .ok (.iadd, 1) := by decide +kernel
theorem dX7_write_60 : decode cX7_write 60 = .ok (.aload_n 0, 1) := by decide +kernel
theorem dX7_write_61 : decode cX7_write 61 = .ok (.getfield 29, 3) := by decide +kernel
theorem dX7_write_64 : decode cX7_write 64 = .ok (.iload_n 1, 1) := by decide +kernel
theorem dX7_write_65 : decode cX7_write 65 = .ok (.iaload, 1) := by decide +kernel
theorem dX7_write_66 : decode cX7_write 66 = .ok (.bipush 8, 2) := by decide +kernel
theorem dX7_write_68 : decode cX7_write 68 = .ok (.if_icmp .ne 8, 3) := by decide +kernel
theorem dX7_write_71 : decode cX7_write 71 = .ok (.iload_n 3, 1) := by decide +kernel
theorem dX7_write_72 : decode cX7_write 72 = .ok (.i2b, 1) := by decide +kernel
theorem dX7_write_73 : decode cX7_write 73 = .ok (.goto 20, 3) := by decide +kernel
theorem dX7_write_76 : decode cX7_write 76 = .ok (.aload_n 0, 1) := by decide +kernel
theorem dX7_write_77 : decode cX7_write 77 = .ok (.getfield 29, 3) := by decide +kernel
theorem dX7_write_80 : decode cX7_write 80 = .ok (.iload_n 1, 1) := by decide +kernel
theorem dX7_write_81 : decode cX7_write 81 = .ok (.iaload, 1) := by decide +kernel
theorem dX7_write_82 : decode cX7_write 82 = .ok (.bipush 16, 2) := by decide +kernel
theorem dX7_write_84 : decode cX7_write 84 = .ok (.if_icmp .ne 8, 3) := by decide +kernel
theorem dX7_write_87 : decode cX7_write 87 = .ok (.iload_n 3, 1) := by decide +kernel
theorem dX7_write_88 : decode cX7_write 88 = .ok (.i2s, 1) := by decide +kernel
theorem dX7_write_89 : decode cX7_write 89 = .ok (.goto 4, 3) := by decide +kernel
theorem dX7_write_92 : decode cX7_write 92 = .ok (.iload_n 3, 1) := by decide +kernel
theorem dX7_write_93 : decode cX7_write 93 = .ok (.iastore, 1) := by decide +kernel
theorem dX7_write_94 : decode cX7_write 94 = .ok (.iconst 1, 1) := by decide +kernel
theorem dX7_write_95 : decode cX7_write 95 = .ok (.ireturn, 1) := by decide +kernel
theorem dX7_copy_0 : decode cX7_copy 0 = .ok (.iload_n 1, 1) := by decide +kernel
theorem dX7_copy_1 : decode cX7_copy 1 = .ok (.invokestatic 295, 3) := by decide +kernel
theorem dX7_copy_4 : decode cX7_copy 4 = .ok (.ifCond .eq 10, 3) := by decide +kernel
theorem dX7_copy_7 : decode cX7_copy 7 = .ok (.iload_n 3, 1) := by decide +kernel
theorem dX7_copy_8 : decode cX7_copy 8 = .ok (.invokestatic 295, 3) := by decide +kernel
theorem dX7_copy_11 : decode cX7_copy 11 = .ok (.ifCond .ne 9, 3) := by decide +kernel
theorem dX7_copy_14 : decode cX7_copy 14 = .ok (.aload_n 0, 1) := by decide +kernel
theorem dX7_copy_15 : decode cX7_copy 15 = .ok (.iconst 0, 1) := by decide +kernel
theorem dX7_copy_16 : decode cX7_copy 16 = .ok (.invokevirtual 109, 3) := by decide +kernel
theorem dX7_copy_19 : decode cX7_copy 19 = .ok (.ireturn, 1) := by decide +kernel
theorem dX7_copy_20 : decode cX7_copy 20 = .ok (.aload_n 0, 1) := by decide +kernel
theorem dX7_copy_21 : decode cX7_copy 21 = .ok (.getfield 29, 3) := by decide +kernel
theorem dX7_copy_24 : decode cX7_copy 24 = .ok (.iload_n 1, 1) := by decide +kernel
theorem dX7_copy_25 : decode cX7_copy 25 = .ok (.iaload, 1) := by decide +kernel
theorem dX7_copy_26 : decode cX7_copy 26 = .ok (.ifCond .eq 12, 3) := by decide +kernel
theorem dX7_copy_29 : decode cX7_copy 29 = .ok (.aload_n 0, 1) := by decide +kernel
theorem dX7_copy_30 : decode cX7_copy 30 = .ok (.getfield 29, 3) := by decide +kernel
theorem dX7_copy_33 : decode cX7_copy 33 = .ok (.iload_n 3, 1) := by decide +kernel
theorem dX7_copy_34 : decode cX7_copy 34 = .ok (.iaload, 1) := by decide +kernel
theorem dX7_copy_35 : decode cX7_copy 35 = .ok (.ifCond .ne 9, 3) := by decide +kernel
theorem dX7_copy_38 : decode cX7_copy 38 = .ok (.aload_n 0, 1) := by decide +kernel
theorem dX7_copy_39 : decode cX7_copy 39 = .ok (.iconst 5, 1) := by decide +kernel
theorem dX7_copy_40 : decode cX7_copy 40 = .ok (.invokevirtual 109, 3) := by decide +kernel
theorem dX7_copy_43 : decode cX7_copy 43 = .ok (.ireturn, 1) := by decide +kernel
theorem dX7_copy_44 : decode cX7_copy 44 = .ok (.aload_n 0, 1) := by decide +kernel
theorem dX7_copy_45 : decode cX7_copy 45 = .ok (.getfield 29, 3) := by decide +kernel
theorem dX7_copy_48 : decode cX7_copy 48 = .ok (.iload_n 1, 1) := by decide +kernel
theorem dX7_copy_49 : decode cX7_copy 49 = .ok (.iaload, 1) := by decide +kernel
theorem dX7_copy_50 : decode cX7_copy 50 = .ok (.aload_n 0, 1) := by decide +kernel
theorem dX7_copy_51 : decode cX7_copy 51 = .ok (.getfield 29, 3) := by decide +kernel
theorem dX7_copy_54 : decode cX7_copy 54 = .ok (.iload_n 3, 1) := by decide +kernel
theorem dX7_copy_55 : decode cX7_copy 55 = .ok (.iaload, 1) := by decide +kernel
theorem dX7_copy_56 : decode cX7_copy 56 = .ok (.if_icmp .eq 9, 3) := by decide +kernel
theorem dX7_copy_59 : decode cX7_copy 59 = .ok (.aload_n 0, 1) := by decide +kernel
theorem dX7_copy_60 : decode cX7_copy 60 = .ok (.iconst 2, 1) := by decide +kernel
theorem dX7_copy_61 : decode cX7_copy 61 = .ok (.invokevirtual 109, 3) := by decide +kernel
theorem dX7_copy_64 : decode cX7_copy 64 = .ok (.ireturn, 1) := by decide +kernel
theorem dX7_copy_65 : decode cX7_copy 65 = .ok (.iload_n 2, 1) := by decide +kernel
theorem dX7_copy_66 : decode cX7_copy 66 = .ok (.ifCond .lt 48, 3) := by decide +kernel
theorem dX7_copy_69 : decode cX7_copy 69 = .ok (.iload 4, 2) := by decide +kernel
theorem dX7_copy_71 : decode cX7_copy 71 = .ok (.ifCond .lt 43, 3) := by decide +kernel
theorem dX7_copy_74 : decode cX7_copy 74 = .ok (.iload 5, 2) := by decide +kernel
theorem dX7_copy_76 : decode cX7_copy 76 = .ok (.ifCond .lt 38, 3) := by decide +kernel
theorem dX7_copy_79 : decode cX7_copy 79 = .ok (.iload_n 2, 1) := by decide +kernel
theorem dX7_copy_80 : decode cX7_copy 80 = .ok (.i2l, 1) := by decide +kernel
theorem dX7_copy_81 : decode cX7_copy 81 = .ok (.iload 5, 2) := by decide +kernel
theorem dX7_copy_83 : decode cX7_copy 83 = .ok (.i2l, 1) := by decide +kernel
theorem dX7_copy_84 : decode cX7_copy 84 = .ok (.ladd, 1) := by decide +kernel
theorem dX7_copy_85 : decode cX7_copy 85 = .ok (.aload_n 0, 1) := by decide +kernel
theorem dX7_copy_86 : decode cX7_copy 86 = .ok (.getfield 32, 3) := by decide +kernel
theorem dX7_copy_89 : decode cX7_copy 89 = .ok (.iload_n 1, 1) := by decide +kernel
theorem dX7_copy_90 : decode cX7_copy 90 = .ok (.iaload, 1) := by decide +kernel
theorem dX7_copy_91 : decode cX7_copy 91 = .ok (.i2l, 1) := by decide +kernel
theorem dX7_copy_92 : decode cX7_copy 92 = .ok (.lcmp, 1) := by decide +kernel
theorem dX7_copy_93 : decode cX7_copy 93 = .ok (.ifCond .gt 21, 3) := by decide +kernel
theorem dX7_copy_96 : decode cX7_copy 96 = .ok (.iload 4, 2) := by decide +kernel
theorem dX7_copy_98 : decode cX7_copy 98 = .ok (.i2l, 1) := by decide +kernel
theorem dX7_copy_99 : decode cX7_copy 99 = .ok (.iload 5, 2) := by decide +kernel
theorem dX7_copy_101 : decode cX7_copy 101 = .ok (.i2l, 1) := by decide +kernel
theorem dX7_copy_102 : decode cX7_copy 102 = .ok (.ladd, 1) := by decide +kernel
theorem dX7_copy_103 : decode cX7_copy 103 = .ok (.aload_n 0, 1) := by decide +kernel
theorem dX7_copy_104 : decode cX7_copy 104 = .ok (.getfield 32, 3) := by decide +kernel
theorem dX7_copy_107 : decode cX7_copy 107 = .ok (.iload_n 3, 1) := by decide +kernel
theorem dX7_copy_108 : decode cX7_copy 108 = .ok (.iaload, 1) := by decide +kernel
theorem dX7_copy_109 : decode cX7_copy 109 = .ok (.i2l, 1) := by decide +kernel
theorem dX7_copy_110 : decode cX7_copy 110 = .ok (.lcmp, 1) := by decide +kernel
theorem dX7_copy_111 : decode cX7_copy 111 = .ok (.ifCond .le 9, 3) := by decide +kernel
theorem dX7_copy_114 : decode cX7_copy 114 = .ok (.aload_n 0, 1) := by decide +kernel
theorem dX7_copy_115 : decode cX7_copy 115 = .ok (.iconst 0, 1) := by decide +kernel
theorem dX7_copy_116 : decode cX7_copy 116 = .ok (.invokevirtual 109, 3) := by decide +kernel
theorem dX7_copy_119 : decode cX7_copy 119 = .ok (.ireturn, 1) := by decide +kernel
theorem dX7_copy_120 : decode cX7_copy 120 = .ok (.iconst 0, 1) := by decide +kernel
theorem dX7_copy_121 : decode cX7_copy 121 = .ok (.istore 6, 2) := by decide +kernel
theorem dX7_copy_123 : decode cX7_copy 123 = .ok (.iload 6, 2) := by decide +kernel
theorem dX7_copy_125 : decode cX7_copy 125 = .ok (.iload 5, 2) := by decide +kernel
theorem dX7_copy_127 : decode cX7_copy 127 = .ok (.if_icmp .ge 30, 3) := by decide +kernel
theorem dX7_copy_130 : decode cX7_copy 130 = .ok (.aload_n 0, 1) := by decide +kernel
theorem dX7_copy_131 : decode cX7_copy 131 = .ok (.getfield 38, 3) := by decide +kernel
theorem dX7_copy_134 : decode cX7_copy 134 = .ok (.iload 6, 2) := by decide +kernel
theorem dX7_copy_136 : decode cX7_copy 136 = .ok (.aload_n 0, 1) := by decide +kernel
theorem dX7_copy_137 : decode cX7_copy 137 = .ok (.getfield 35, 3) := by decide +kernel
theorem dX7_copy_140 : decode cX7_copy 140 = .ok (.bipush 40, 2) := by decide +kernel
theorem dX7_copy_142 : decode cX7_copy 142 = .ok (.iload_n 1, 1) := by decide +kernel
theorem dX7_copy_143 : decode cX7_copy 143 = .ok (.imul, 1) := by decide +kernel
theorem dX7_copy_144 : decode cX7_copy 144 = .ok (.iload_n 2, 1) := by decide +kernel
theorem dX7_copy_145 : decode cX7_copy 145 = .ok (.iadd, 1) := by decide +kernel
theorem dX7_copy_146 : decode cX7_copy 146 = .ok (.iload 6, 2) := by decide +kernel
theorem dX7_copy_148 : decode cX7_copy 148 = .ok (.iadd, 1) := by decide +kernel
theorem dX7_copy_149 : decode cX7_copy 149 = .ok (.iaload, 1) := by decide +kernel
theorem dX7_copy_150 : decode cX7_copy 150 = .ok (.iastore, 1) := by decide +kernel
theorem dX7_copy_151 : decode cX7_copy 151 = .ok (.iinc 6 1, 3) := by decide +kernel
theorem dX7_copy_154 : decode cX7_copy 154 = .ok (.goto (-31), 3) := by decide +kernel
theorem dX7_copy_157 : decode cX7_copy 157 = .ok (.iconst 0, 1) := by decide +kernel
theorem dX7_copy_158 : decode cX7_copy 158 = .ok (.istore 6, 2) := by decide +kernel
theorem dX7_copy_160 : decode cX7_copy 160 = .ok (.iload 6, 2) := by decide +kernel
theorem dX7_copy_162 : decode cX7_copy 162 = .ok (.iload 5, 2) := by decide +kernel
theorem dX7_copy_164 : decode cX7_copy 164 = .ok (.if_icmp .ge 31, 3) := by decide +kernel
theorem dX7_copy_167 : decode cX7_copy 167 = .ok (.aload_n 0, 1) := by decide +kernel
theorem dX7_copy_168 : decode cX7_copy 168 = .ok (.getfield 35, 3) := by decide +kernel
theorem dX7_copy_171 : decode cX7_copy 171 = .ok (.bipush 40, 2) := by decide +kernel
theorem dX7_copy_173 : decode cX7_copy 173 = .ok (.iload_n 3, 1) := by decide +kernel
theorem dX7_copy_174 : decode cX7_copy 174 = .ok (.imul, 1) := by decide +kernel
theorem dX7_copy_175 : decode cX7_copy 175 = .ok (.iload 4, 2) := by decide +kernel
theorem dX7_copy_177 : decode cX7_copy 177 = .ok (.iadd, 1) := by decide +kernel
theorem dX7_copy_178 : decode cX7_copy 178 = .ok (.iload 6, 2) := by decide +kernel
theorem dX7_copy_180 : decode cX7_copy 180 = .ok (.iadd, 1) := by decide +kernel
theorem dX7_copy_181 : decode cX7_copy 181 = .ok (.aload_n 0, 1) := by decide +kernel
theorem dX7_copy_182 : decode cX7_copy 182 = .ok (.getfield 38, 3) := by decide +kernel
theorem dX7_copy_185 : decode cX7_copy 185 = .ok (.iload 6, 2) := by decide +kernel
theorem dX7_copy_187 : decode cX7_copy 187 = .ok (.iaload, 1) := by decide +kernel
theorem dX7_copy_188 : decode cX7_copy 188 = .ok (.iastore, 1) := by decide +kernel
theorem dX7_copy_189 : decode cX7_copy 189 = .ok (.iinc 6 1, 3) := by decide +kernel
theorem dX7_copy_192 : decode cX7_copy 192 = .ok (.goto (-32), 3) := by decide +kernel
theorem dX7_copy_195 : decode cX7_copy 195 = .ok (.iload 5, 2) := by decide +kernel
theorem dX7_copy_197 : decode cX7_copy 197 = .ok (.ireturn, 1) := by decide +kernel
theorem dX7_load_0 : decode cX7_load 0 = .ok (.aload_n 0, 1) := by decide +kernel
theorem dX7_load_1 : decode cX7_load 1 = .ok (.iload_n 1, 1) := by decide +kernel
theorem dX7_load_2 : decode cX7_load 2 = .ok (.invokevirtual 171, 3) := by decide +kernel
theorem dX7_load_5 : decode cX7_load 5 = .ok (.istore_n 2, 1) := by decide +kernel
theorem dX7_load_6 : decode cX7_load 6 = .ok (.iload_n 2, 1) := by decide +kernel
theorem dX7_load_7 : decode cX7_load 7 = .ok (.ifCond .lt 9, 3) := by decide +kernel
theorem dX7_load_10 : decode cX7_load 10 = .ok (.aload_n 0, 1) := by decide +kernel
theorem dX7_load_11 : decode cX7_load 11 = .ok (.iload_n 2, 1) := by decide +kernel
theorem dX7_load_12 : decode cX7_load 12 = .ok (.invokevirtual 109, 3) := by decide +kernel
theorem dX7_load_15 : decode cX7_load 15 = .ok (.ireturn, 1) := by decide +kernel
theorem dX7_load_16 : decode cX7_load 16 = .ok (.iconst 0, 1) := by decide +kernel
theorem dX7_load_17 : decode cX7_load 17 = .ok (.istore_n 3, 1) := by decide +kernel
theorem dX7_load_18 : decode cX7_load 18 = .ok (.iload_n 3, 1) := by decide +kernel
theorem dX7_load_19 : decode cX7_load 19 = .ok (.aload_n 0, 1) := by decide +kernel
theorem dX7_load_20 : decode cX7_load 20 = .ok (.getfield 32, 3) := by decide +kernel
theorem dX7_load_23 : decode cX7_load 23 = .ok (.iload_n 1, 1) := by decide +kernel
theorem dX7_load_24 : decode cX7_load 24 = .ok (.iaload, 1) := by decide +kernel
theorem dX7_load_25 : decode cX7_load 25 = .ok (.if_icmp .ge 52, 3) := by decide +kernel
theorem dX7_load_28 : decode cX7_load 28 = .ok (.iload_n 3, 1) := by decide +kernel
theorem dX7_load_29 : decode cX7_load 29 = .ok (.bipush 6, 2) := by decide +kernel
theorem dX7_load_31 : decode cX7_load 31 = .ok (.if_icmp .ge 46, 3) := by decide +kernel
theorem dX7_load_34 : decode cX7_load 34 = .ok (.aload_n 0, 1) := by decide +kernel
theorem dX7_load_35 : decode cX7_load 35 = .ok (.getfield 35, 3) := by decide +kernel
theorem dX7_load_38 : decode cX7_load 38 = .ok (.bipush 40, 2) := by decide +kernel
theorem dX7_load_40 : decode cX7_load 40 = .ok (.iload_n 1, 1) := by decide +kernel
theorem dX7_load_41 : decode cX7_load 41 = .ok (.imul, 1) := by decide +kernel
theorem dX7_load_42 : decode cX7_load 42 = .ok (.iload_n 3, 1) := by decide +kernel
theorem dX7_load_43 : decode cX7_load 43 = .ok (.iadd, 1) := by decide +kernel
theorem dX7_load_44 : decode cX7_load 44 = .ok (.iaload, 1) := by decide +kernel
theorem dX7_load_45 : decode cX7_load 45 = .ok (.invokestatic 115, 3) := by decide +kernel
theorem dX7_load_48 : decode cX7_load 48 = .ok (.ifCond .eq 29, 3) := by decide +kernel
theorem dX7_load_51 : decode cX7_load 51 = .ok (.aload_n 0, 1) := by decide +kernel
theorem dX7_load_52 : decode cX7_load 52 = .ok (.getfield 7, 3) := by decide +kernel
theorem dX7_load_55 : decode cX7_load 55 = .ok (.bipush 6, 2) := by decide +kernel
theorem dX7_load_57 : decode cX7_load 57 = .ok (.iload_n 3, 1) := by decide +kernel
theorem dX7_load_58 : decode cX7_load 58 = .ok (.iadd, 1) := by decide +kernel
theorem dX7_load_59 : decode cX7_load 59 = .ok (.aload_n 0, 1) := by decide +kernel
theorem dX7_load_60 : decode cX7_load 60 = .ok (.getfield 35, 3) := by decide +kernel
theorem dX7_load_63 : decode cX7_load 63 = .ok (.bipush 40, 2) := by decide +kernel
theorem dX7_load_65 : decode cX7_load 65 = .ok (.iload_n 1, 1) := by decide +kernel
theorem dX7_load_66 : decode cX7_load 66 = .ok (.imul, 1) := by decide +kernel
theorem dX7_load_67 : decode cX7_load 67 = .ok (.iload_n 3, 1) := by decide +kernel
theorem dX7_load_68 : decode cX7_load 68 = .ok (.iadd, 1) := by decide +kernel
theorem dX7_load_69 : decode cX7_load 69 = .ok (.iaload, 1) := by decide +kernel
theorem dX7_load_70 : decode cX7_load 70 = .ok (.iastore, 1) := by decide +kernel
theorem dX7_load_71 : decode cX7_load 71 = .ok (.iinc 3 1, 3) := by decide +kernel
theorem dX7_load_74 : decode cX7_load 74 = .ok (.goto (-56), 3) := by decide +kernel
theorem dX7_load_77 : decode cX7_load 77 = .ok (.iload_n 3, 1) := by decide +kernel
theorem dX7_load_78 : decode cX7_load 78 = .ok (.ireturn, 1) := by decide +kernel
theorem dX7_judge_0 : decode cX7_judge 0 = .ok (.aload_n 0, 1) := by decide +kernel
theorem dX7_judge_1 : decode cX7_judge 1 = .ok (.iload_n 1, 1) := by decide +kernel
theorem dX7_judge_2 : decode cX7_judge 2 = .ok (.invokevirtual 171, 3) := by decide +kernel
theorem dX7_judge_5 : decode cX7_judge 5 = .ok (.istore_n 2, 1) := by decide +kernel
theorem dX7_judge_6 : decode cX7_judge 6 = .ok (.iload_n 2, 1) := by decide +kernel
theorem dX7_judge_7 : decode cX7_judge 7 = .ok (.ifCond .lt 9, 3) := by decide +kernel
theorem dX7_judge_10 : decode cX7_judge 10 = .ok (.aload_n 0, 1) := by decide +kernel
theorem dX7_judge_11 : decode cX7_judge 11 = .ok (.iload_n 2, 1) := by decide +kernel
theorem dX7_judge_12 : decode cX7_judge 12 = .ok (.invokevirtual 109, 3) := by decide +kernel
theorem dX7_judge_15 : decode cX7_judge 15 = .ok (.ireturn, 1) := by decide +kernel
theorem dX7_judge_16 : decode cX7_judge 16 = .ok (.iconst 0, 1) := by decide +kernel
theorem dX7_judge_17 : decode cX7_judge 17 = .ok (.istore_n 3, 1) := by decide +kernel
theorem dX7_judge_18 : decode cX7_judge 18 = .ok (.iload_n 3, 1) := by decide +kernel
theorem dX7_judge_19 : decode cX7_judge 19 = .ok (.aload_n 0, 1) := by decide +kernel
theorem dX7_judge_20 : decode cX7_judge 20 = .ok (.getfield 32, 3) := by decide +kernel
theorem dX7_judge_23 : decode cX7_judge 23 = .ok (.iload_n 1, 1) := by decide +kernel
theorem dX7_judge_24 : decode cX7_judge 24 = .ok (.iaload, 1) := by decide +kernel
theorem dX7_judge_25 : decode cX7_judge 25 = .ok (.if_icmp .ge 41, 3) := by decide +kernel
theorem dX7_judge_28 : decode cX7_judge 28 = .ok (.aload_n 0, 1) := by decide +kernel
theorem dX7_judge_29 : decode cX7_judge 29 = .ok (.iload_n 3, 1) := by decide +kernel
theorem dX7_judge_30 : decode cX7_judge 30 = .ok (.invokevirtual 123, 3) := by decide +kernel
theorem dX7_judge_33 : decode cX7_judge 33 = .ok (.ifCond .eq 23, 3) := by decide +kernel
theorem dX7_judge_36 : decode cX7_judge 36 = .ok (.aload_n 0, 1) := by decide +kernel
theorem dX7_judge_37 : decode cX7_judge 37 = .ok (.getfield 35, 3) := by decide +kernel
theorem dX7_judge_40 : decode cX7_judge 40 = .ok (.bipush 40, 2) := by decide +kernel
theorem dX7_judge_42 : decode cX7_judge 42 = .ok (.iload_n 1, 1) := by decide +kernel
theorem dX7_judge_43 : decode cX7_judge 43 = .ok (.imul, 1) := by decide +kernel
theorem dX7_judge_44 : decode cX7_judge 44 = .ok (.iload_n 3, 1) := by decide +kernel
theorem dX7_judge_45 : decode cX7_judge 45 = .ok (.iadd, 1) := by decide +kernel
theorem dX7_judge_46 : decode cX7_judge 46 = .ok (.iaload, 1) := by decide +kernel
theorem dX7_judge_47 : decode cX7_judge 47 = .ok (.aload_n 0, 1) := by decide +kernel
theorem dX7_judge_48 : decode cX7_judge 48 = .ok (.iload_n 3, 1) := by decide +kernel
theorem dX7_judge_49 : decode cX7_judge 49 = .ok (.iconst 3, 1) := by decide +kernel
theorem dX7_judge_50 : decode cX7_judge 50 = .ok (.invokevirtual 54, 3) := by decide +kernel
theorem dX7_judge_53 : decode cX7_judge 53 = .ok (.if_icmp .eq 7, 3) := by decide +kernel
theorem dX7_judge_56 : decode cX7_judge 56 = .ok (.iconst 1, 1) := by decide +kernel
theorem dX7_judge_57 : decode cX7_judge 57 = .ok (.iload_n 3, 1) := by decide +kernel
theorem dX7_judge_58 : decode cX7_judge 58 = .ok (.iadd, 1) := by decide +kernel
theorem dX7_judge_59 : decode cX7_judge 59 = .ok (.ireturn, 1) := by decide +kernel
theorem dX7_judge_60 : decode cX7_judge 60 = .ok (.iinc 3 1, 3) := by decide +kernel
theorem dX7_judge_63 : decode cX7_judge 63 = .ok (.goto (-45), 3) := by decide +kernel
theorem dX7_judge_66 : decode cX7_judge 66 = .ok (.iconst 0, 1) := by decide +kernel
theorem dX7_judge_67 : decode cX7_judge 67 = .ok (.ireturn, 1) := by decide +kernel
theorem dX7_image_0 : decode cX7_image 0 = .ok (.aload_n 0, 1) := by decide +kernel
theorem dX7_image_1 : decode cX7_image 1 = .ok (.getfield 7, 3) := by decide +kernel
theorem dX7_image_4 : decode cX7_image 4 = .ok (.aload_n 0, 1) := by decide +kernel
theorem dX7_image_5 : decode cX7_image 5 = .ok (.getfield 19, 3) := by decide +kernel
theorem dX7_image_8 : decode cX7_image 8 = .ok (.invokestatic 146, 3) := by decide +kernel
theorem dX7_image_11 : decode cX7_image 11 = .ok (.aload_n 0, 1) := by decide +kernel
theorem dX7_image_12 : decode cX7_image 12 = .ok (.iconst 1, 1) := by decide +kernel
theorem dX7_image_13 : decode cX7_image 13 = .ok (.putfield 298, 3) := by decide +kernel
theorem dX7_image_16 : decode cX7_image 16 = .ok (.iconst 1, 1) := by decide +kernel
theorem dX7_image_17 : decode cX7_image 17 = .ok (.ireturn, 1) := by decide +kernel
theorem dX7_undo_0 : decode cX7_undo 0 = .ok (.aload_n 0, 1) := by decide +kernel
theorem dX7_undo_1 : decode cX7_undo 1 = .ok (.getfield 298, 3) := by decide +kernel
theorem dX7_undo_4 : decode cX7_undo 4 = .ok (.ifCond .ne 9, 3) := by decide +kernel
theorem dX7_undo_7 : decode cX7_undo 7 = .ok (.aload_n 0, 1) := by decide +kernel
theorem dX7_undo_8 : decode cX7_undo 8 = .ok (.iconst 3, 1) := by decide +kernel
theorem dX7_undo_9 : decode cX7_undo 9 = .ok (.invokevirtual 109, 3) := by decide +kernel
theorem dX7_undo_12 : decode cX7_undo 12 = .ok (.ireturn, 1) := by decide +kernel
theorem dX7_undo_13 : decode cX7_undo 13 = .ok (.aload_n 0, 1) := by decide +kernel
theorem dX7_undo_14 : decode cX7_undo 14 = .ok (.getfield 19, 3) := by decide +kernel
theorem dX7_undo_17 : decode cX7_undo 17 = .ok (.aload_n 0, 1) := by decide +kernel
theorem dX7_undo_18 : decode cX7_undo 18 = .ok (.getfield 7, 3) := by decide +kernel
theorem dX7_undo_21 : decode cX7_undo 21 = .ok (.invokestatic 146, 3) := by decide +kernel
theorem dX7_undo_24 : decode cX7_undo 24 = .ok (.aload_n 0, 1) := by decide +kernel
theorem dX7_undo_25 : decode cX7_undo 25 = .ok (.getfield 7, 3) := by decide +kernel
theorem dX7_undo_28 : decode cX7_undo 28 = .ok (.iconst 1, 1) := by decide +kernel
theorem dX7_undo_29 : decode cX7_undo 29 = .ok (.iaload, 1) := by decide +kernel
theorem dX7_undo_30 : decode cX7_undo 30 = .ok (.ireturn, 1) := by decide +kernel
theorem dX7_tear_0 : decode cX7_tear 0 = .ok (.aload_n 0, 1) := by decide +kernel
theorem dX7_tear_1 : decode cX7_tear 1 = .ok (.getfield 298, 3) := by decide +kernel
theorem dX7_tear_4 : decode cX7_tear 4 = .ok (.ifCond .eq 7, 3) := by decide +kernel
theorem dX7_tear_7 : decode cX7_tear 7 = .ok (.iconst 1, 1) := by decide +kernel
theorem dX7_tear_8 : decode cX7_tear 8 = .ok (.goto 4, 3) := by decide +kernel
theorem dX7_tear_11 : decode cX7_tear 11 = .ok (.iconst 0, 1) := by decide +kernel
theorem dX7_tear_12 : decode cX7_tear 12 = .ok (.istore_n 1, 1) := by decide +kernel
theorem dX7_tear_13 : decode cX7_tear 13 = .ok (.aload_n 0, 1) := by decide +kernel
theorem dX7_tear_14 : decode cX7_tear 14 = .ok (.iconst 0, 1) := by decide +kernel
theorem dX7_tear_15 : decode cX7_tear 15 = .ok (.putfield 298, 3) := by decide +kernel
theorem dX7_tear_18 : decode cX7_tear 18 = .ok (.iload_n 1, 1) := by decide +kernel
theorem dX7_tear_19 : decode cX7_tear 19 = .ok (.ireturn, 1) := by decide +kernel
theorem dX7_holding_0 : decode cX7_holding 0 = .ok (.iconst 0, 1) := by decide +kernel
theorem dX7_holding_1 : decode cX7_holding 1 = .ok (.istore_n 1, 1) := by decide +kernel
theorem dX7_holding_2 : decode cX7_holding 2 = .ok (.iconst 0, 1) := by decide +kernel
theorem dX7_holding_3 : decode cX7_holding 3 = .ok (.istore_n 2, 1) := by decide +kernel
theorem dX7_holding_4 : decode cX7_holding 4 = .ok (.iload_n 2, 1) := by decide +kernel
theorem dX7_holding_5 : decode cX7_holding 5 = .ok (.bipush 10, 2) := by decide +kernel
theorem dX7_holding_7 : decode cX7_holding 7 = .ok (.if_icmp .ge 29, 3) := by decide +kernel
theorem dX7_holding_10 : decode cX7_holding 10 = .ok (.iload_n 1, 1) := by decide +kernel
theorem dX7_holding_11 : decode cX7_holding 11 = .ok (.aload_n 0, 1) := by decide +kernel
theorem dX7_holding_12 : decode cX7_holding 12 = .ok (.getfield 7, 3) := by decide +kernel
theorem dX7_holding_15 : decode cX7_holding 15 = .ok (.bipush 60, 2) := by decide +kernel
theorem dX7_holding_17 : decode cX7_holding 17 = .ok (.iload_n 2, 1) := by decide +kernel
theorem dX7_holding_18 : decode cX7_holding 18 = .ok (.iadd, 1) := by decide +kernel
theorem dX7_holding_19 : decode cX7_holding 19 = .ok (.iaload, 1) := by decide +kernel
theorem dX7_holding_20 : decode cX7_holding 20 = .ok (.ifCond .le 7, 3) := by decide +kernel
theorem dX7_holding_23 : decode cX7_holding 23 = .ok (.iconst 1, 1) := by decide +kernel
theorem dX7_holding_24 : decode cX7_holding 24 = .ok (.goto 4, 3) := by decide +kernel
theorem dX7_holding_27 : decode cX7_holding 27 = .ok (.iconst 0, 1) := by decide +kernel
theorem dX7_holding_28 : decode cX7_holding 28 = .ok (.iadd, 1) := by decide +kernel
theorem dX7_holding_29 : decode cX7_holding 29 = .ok (.istore_n 1, 1) := by decide +kernel
theorem dX7_holding_30 : decode cX7_holding 30 = .ok (.iinc 2 1, 3) := by decide +kernel
theorem dX7_holding_33 : decode cX7_holding 33 = .ok (.goto (-29), 3) := by decide +kernel
theorem dX7_holding_36 : decode cX7_holding 36 = .ok (.iload_n 1, 1) := by decide +kernel
theorem dX7_holding_37 : decode cX7_holding 37 = .ok (.ireturn, 1) := by decide +kernel
theorem dX7_count_0 : decode cX7_count 0 = .ok (.iload_n 1, 1) := by decide +kernel
theorem dX7_count_1 : decode cX7_count 1 = .ok (.tableswitch 101 0 7 #[47, 54, 61, 71, 78, 84, 89, 96], 47) := by decide +kernel
theorem dX7_count_48 : decode cX7_count 48 = .ok (.aload_n 0, 1) := by decide +kernel
theorem dX7_count_49 : decode cX7_count 49 = .ok (.getfield 7, 3) := by decide +kernel
theorem dX7_count_52 : decode cX7_count 52 = .ok (.iconst 1, 1) := by decide +kernel
theorem dX7_count_53 : decode cX7_count 53 = .ok (.iaload, 1) := by decide +kernel
theorem dX7_count_54 : decode cX7_count 54 = .ok (.ireturn, 1) := by decide +kernel
theorem dX7_count_55 : decode cX7_count 55 = .ok (.aload_n 0, 1) := by decide +kernel
theorem dX7_count_56 : decode cX7_count 56 = .ok (.getfield 7, 3) := by decide +kernel
theorem dX7_count_59 : decode cX7_count 59 = .ok (.iconst 0, 1) := by decide +kernel
theorem dX7_count_60 : decode cX7_count 60 = .ok (.iaload, 1) := by decide +kernel
theorem dX7_count_61 : decode cX7_count 61 = .ok (.ireturn, 1) := by decide +kernel
theorem dX7_count_62 : decode cX7_count 62 = .ok (.aload_n 0, 1) := by decide +kernel
theorem dX7_count_63 : decode cX7_count 63 = .ok (.getfield 7, 3) := by decide +kernel
theorem dX7_count_66 : decode cX7_count 66 = .ok (.iconst 4, 1) := by decide +kernel
theorem dX7_count_67 : decode cX7_count 67 = .ok (.iaload, 1) := by decide +kernel
theorem dX7_count_68 : decode cX7_count 68 = .ok (.invokestatic 58, 3) := by decide +kernel
theorem dX7_count_71 : decode cX7_count 71 = .ok (.ireturn, 1) := by decide +kernel
theorem dX7_count_72 : decode cX7_count 72 = .ok (.aload_n 0, 1) := by decide +kernel
theorem dX7_count_73 : decode cX7_count 73 = .ok (.getfield 7, 3) := by decide +kernel
theorem dX7_count_76 : decode cX7_count 76 = .ok (.iconst 5, 1) := by decide +kernel
theorem dX7_count_77 : decode cX7_count 77 = .ok (.iaload, 1) := by decide +kernel
theorem dX7_count_78 : decode cX7_count 78 = .ok (.ireturn, 1) := by decide +kernel
theorem dX7_count_79 : decode cX7_count 79 = .ok (.aload_n 0, 1) := by decide +kernel
theorem dX7_count_80 : decode cX7_count 80 = .ok (.iconst 5, 1) := by decide +kernel
theorem dX7_count_81 : decode cX7_count 81 = .ok (.invokevirtual 140, 3) := by decide +kernel
theorem dX7_count_84 : decode cX7_count 84 = .ok (.ireturn, 1) := by decide +kernel
theorem dX7_count_85 : decode cX7_count 85 = .ok (.aload_n 0, 1) := by decide +kernel
theorem dX7_count_86 : decode cX7_count 86 = .ok (.getfield 191, 3) := by decide +kernel
theorem dX7_count_89 : decode cX7_count 89 = .ok (.ireturn, 1) := by decide +kernel
theorem dX7_count_90 : decode cX7_count 90 = .ok (.aload_n 0, 1) := by decide +kernel
theorem dX7_count_91 : decode cX7_count 91 = .ok (.getfield 7, 3) := by decide +kernel
theorem dX7_count_94 : decode cX7_count 94 = .ok (.iconst 2, 1) := by decide +kernel
theorem dX7_count_95 : decode cX7_count 95 = .ok (.iaload, 1) := by decide +kernel
theorem dX7_count_96 : decode cX7_count 96 = .ok (.ireturn, 1) := by decide +kernel
theorem dX7_count_97 : decode cX7_count 97 = .ok (.aload_n 0, 1) := by decide +kernel
theorem dX7_count_98 : decode cX7_count 98 = .ok (.invokevirtual 302, 3) := by decide +kernel
theorem dX7_count_101 : decode cX7_count 101 = .ok (.ireturn, 1) := by decide +kernel
theorem dX7_count_102 : decode cX7_count 102 = .ok (.aload_n 0, 1) := by decide +kernel
theorem dX7_count_103 : decode cX7_count 103 = .ok (.iconst 0, 1) := by decide +kernel
theorem dX7_count_104 : decode cX7_count 104 = .ok (.invokevirtual 109, 3) := by decide +kernel
theorem dX7_count_107 : decode cX7_count 107 = .ok (.ireturn, 1) := by decide +kernel
theorem dX7_status_0 : decode cX7_status 0 = .ok (.iload_n 1, 1) := by decide +kernel
theorem dX7_status_1 : decode cX7_status 1 = .ok (.i2l, 1) := by decide +kernel
theorem dX7_status_2 : decode cX7_status 2 = .ok (.ldc2_w 288, 3) := by decide +kernel
theorem dX7_status_5 : decode cX7_status 5 = .ok (.ldc2_w 118, 3) := by decide +kernel
theorem dX7_status_8 : decode cX7_status 8 = .ok (.invokestatic 42, 3) := by decide +kernel
theorem dX7_status_11 : decode cX7_status 11 = .ok (.ifCond .ne 9, 3) := by decide +kernel
theorem dX7_status_14 : decode cX7_status 14 = .ok (.aload_n 0, 1) := by decide +kernel
theorem dX7_status_15 : decode cX7_status 15 = .ok (.iconst 0, 1) := by decide +kernel
theorem dX7_status_16 : decode cX7_status 16 = .ok (.invokevirtual 109, 3) := by decide +kernel
theorem dX7_status_19 : decode cX7_status 19 = .ok (.ireturn, 1) := by decide +kernel
theorem dX7_status_20 : decode cX7_status 20 = .ok (.iconst 0, 1) := by decide +kernel
theorem dX7_status_21 : decode cX7_status 21 = .ok (.istore_n 2, 1) := by decide +kernel
theorem dX7_status_22 : decode cX7_status 22 = .ok (.iconst 0, 1) := by decide +kernel
theorem dX7_status_23 : decode cX7_status 23 = .ok (.istore_n 3, 1) := by decide +kernel
theorem dX7_status_24 : decode cX7_status 24 = .ok (.iload_n 3, 1) := by decide +kernel
theorem dX7_status_25 : decode cX7_status 25 = .ok (.bipush 7, 2) := by decide +kernel
theorem dX7_status_27 : decode cX7_status 27 = .ok (.if_icmp .ge 18, 3) := by decide +kernel
theorem dX7_status_30 : decode cX7_status 30 = .ok (.iload_n 2, 1) := by decide +kernel
theorem dX7_status_31 : decode cX7_status 31 = .ok (.aload_n 0, 1) := by decide +kernel
theorem dX7_status_32 : decode cX7_status 32 = .ok (.getfield 22, 3) := by decide +kernel
theorem dX7_status_35 : decode cX7_status 35 = .ok (.iload_n 3, 1) := by decide +kernel
theorem dX7_status_36 : decode cX7_status 36 = .ok (.iaload, 1) := by decide +kernel
theorem dX7_status_37 : decode cX7_status 37 = .ok (.iadd, 1) := by decide +kernel
theorem dX7_status_38 : decode cX7_status 38 = .ok (.istore_n 2, 1) := by decide +kernel
theorem dX7_status_39 : decode cX7_status 39 = .ok (.iinc 3 1, 3) := by decide +kernel
theorem dX7_status_42 : decode cX7_status 42 = .ok (.goto (-18), 3) := by decide +kernel
theorem dX7_status_45 : decode cX7_status 45 = .ok (.iload_n 1, 1) := by decide +kernel
theorem dX7_status_46 : decode cX7_status 46 = .ok (.ifCond .ge 7, 3) := by decide +kernel
theorem dX7_status_49 : decode cX7_status 49 = .ok (.iload_n 2, 1) := by decide +kernel
theorem dX7_status_50 : decode cX7_status 50 = .ok (.goto 9, 3) := by decide +kernel
theorem dX7_status_53 : decode cX7_status 53 = .ok (.aload_n 0, 1) := by decide +kernel
theorem dX7_status_54 : decode cX7_status 54 = .ok (.getfield 22, 3) := by decide +kernel
theorem dX7_status_57 : decode cX7_status 57 = .ok (.iload_n 1, 1) := by decide +kernel
theorem dX7_status_58 : decode cX7_status 58 = .ok (.iaload, 1) := by decide +kernel
theorem dX7_status_59 : decode cX7_status 59 = .ok (.ireturn, 1) := by decide +kernel
theorem dJ6_bitCount_0f7a4_0 : decode cJ6_bitCount_0f7a4 0 = .ok (.iload_n 0, 1) := by decide +kernel
theorem dJ6_bitCount_0f7a4_1 : decode cJ6_bitCount_0f7a4 1 = .ok (.iload_n 0, 1) := by decide +kernel
theorem dJ6_bitCount_0f7a4_2 : decode cJ6_bitCount_0f7a4 2 = .ok (.iconst 1, 1) := by decide +kernel
theorem dJ6_bitCount_0f7a4_3 : decode cJ6_bitCount_0f7a4 3 = .ok (.iushr, 1) := by decide +kernel
theorem dJ6_bitCount_0f7a4_4 : decode cJ6_bitCount_0f7a4 4 = .ok (.ldc_w 265, 3) := by decide +kernel
theorem dJ6_bitCount_0f7a4_7 : decode cJ6_bitCount_0f7a4 7 = .ok (.iand, 1) := by decide +kernel
theorem dJ6_bitCount_0f7a4_8 : decode cJ6_bitCount_0f7a4 8 = .ok (.isub, 1) := by decide +kernel
theorem dJ6_bitCount_0f7a4_9 : decode cJ6_bitCount_0f7a4 9 = .ok (.istore_n 0, 1) := by decide +kernel
theorem dJ6_bitCount_0f7a4_10 : decode cJ6_bitCount_0f7a4 10 = .ok (.iload_n 0, 1) := by decide +kernel
theorem dJ6_bitCount_0f7a4_11 : decode cJ6_bitCount_0f7a4 11 = .ok (.ldc_w 266, 3) := by decide +kernel
theorem dJ6_bitCount_0f7a4_14 : decode cJ6_bitCount_0f7a4 14 = .ok (.iand, 1) := by decide +kernel
theorem dJ6_bitCount_0f7a4_15 : decode cJ6_bitCount_0f7a4 15 = .ok (.iload_n 0, 1) := by decide +kernel
theorem dJ6_bitCount_0f7a4_16 : decode cJ6_bitCount_0f7a4 16 = .ok (.iconst 2, 1) := by decide +kernel
theorem dJ6_bitCount_0f7a4_17 : decode cJ6_bitCount_0f7a4 17 = .ok (.iushr, 1) := by decide +kernel
theorem dJ6_bitCount_0f7a4_18 : decode cJ6_bitCount_0f7a4 18 = .ok (.ldc_w 266, 3) := by decide +kernel
theorem dJ6_bitCount_0f7a4_21 : decode cJ6_bitCount_0f7a4 21 = .ok (.iand, 1) := by decide +kernel
theorem dJ6_bitCount_0f7a4_22 : decode cJ6_bitCount_0f7a4 22 = .ok (.iadd, 1) := by decide +kernel
theorem dJ6_bitCount_0f7a4_23 : decode cJ6_bitCount_0f7a4 23 = .ok (.istore_n 0, 1) := by decide +kernel
theorem dJ6_bitCount_0f7a4_24 : decode cJ6_bitCount_0f7a4 24 = .ok (.iload_n 0, 1) := by decide +kernel
theorem dJ6_bitCount_0f7a4_25 : decode cJ6_bitCount_0f7a4 25 = .ok (.iload_n 0, 1) := by decide +kernel
theorem dJ6_bitCount_0f7a4_26 : decode cJ6_bitCount_0f7a4 26 = .ok (.iconst 4, 1) := by decide +kernel
theorem dJ6_bitCount_0f7a4_27 : decode cJ6_bitCount_0f7a4 27 = .ok (.iushr, 1) := by decide +kernel
theorem dJ6_bitCount_0f7a4_28 : decode cJ6_bitCount_0f7a4 28 = .ok (.iadd, 1) := by decide +kernel
theorem dJ6_bitCount_0f7a4_29 : decode cJ6_bitCount_0f7a4 29 = .ok (.ldc_w 267, 3) := by decide +kernel
theorem dJ6_bitCount_0f7a4_32 : decode cJ6_bitCount_0f7a4 32 = .ok (.iand, 1) := by decide +kernel
theorem dJ6_bitCount_0f7a4_33 : decode cJ6_bitCount_0f7a4 33 = .ok (.istore_n 0, 1) := by decide +kernel
theorem dJ6_bitCount_0f7a4_34 : decode cJ6_bitCount_0f7a4 34 = .ok (.iload_n 0, 1) := by decide +kernel
theorem dJ6_bitCount_0f7a4_35 : decode cJ6_bitCount_0f7a4 35 = .ok (.iload_n 0, 1) := by decide +kernel
theorem dJ6_bitCount_0f7a4_36 : decode cJ6_bitCount_0f7a4 36 = .ok (.bipush 8, 2) := by decide +kernel
theorem dJ6_bitCount_0f7a4_38 : decode cJ6_bitCount_0f7a4 38 = .ok (.iushr, 1) := by decide +kernel
theorem dJ6_bitCount_0f7a4_39 : decode cJ6_bitCount_0f7a4 39 = .ok (.iadd, 1) := by decide +kernel
theorem dJ6_bitCount_0f7a4_40 : decode cJ6_bitCount_0f7a4 40 = .ok (.istore_n 0, 1) := by decide +kernel
theorem dJ6_bitCount_0f7a4_41 : decode cJ6_bitCount_0f7a4 41 = .ok (.iload_n 0, 1) := by decide +kernel
theorem dJ6_bitCount_0f7a4_42 : decode cJ6_bitCount_0f7a4 42 = .ok (.iload_n 0, 1) := by decide +kernel
theorem dJ6_bitCount_0f7a4_43 : decode cJ6_bitCount_0f7a4 43 = .ok (.bipush 16, 2) := by decide +kernel
theorem dJ6_bitCount_0f7a4_45 : decode cJ6_bitCount_0f7a4 45 = .ok (.iushr, 1) := by decide +kernel
theorem dJ6_bitCount_0f7a4_46 : decode cJ6_bitCount_0f7a4 46 = .ok (.iadd, 1) := by decide +kernel
theorem dJ6_bitCount_0f7a4_47 : decode cJ6_bitCount_0f7a4 47 = .ok (.istore_n 0, 1) := by decide +kernel
theorem dJ6_bitCount_0f7a4_48 : decode cJ6_bitCount_0f7a4 48 = .ok (.iload_n 0, 1) := by decide +kernel
theorem dJ6_bitCount_0f7a4_49 : decode cJ6_bitCount_0f7a4 49 = .ok (.bipush 63, 2) := by decide +kernel
theorem dJ6_bitCount_0f7a4_51 : decode cJ6_bitCount_0f7a4 51 = .ok (.iand, 1) := by decide +kernel
theorem dJ6_bitCount_0f7a4_52 : decode cJ6_bitCount_0f7a4 52 = .ok (.ireturn, 1) := by decide +kernel
theorem dJ13_bitCount_95d88_0 : decode cJ13_bitCount_95d88 0 = .ok (.lload_n 0, 1) := by decide +kernel
theorem dJ13_bitCount_95d88_1 : decode cJ13_bitCount_95d88 1 = .ok (.lload_n 0, 1) := by decide +kernel
theorem dJ13_bitCount_95d88_2 : decode cJ13_bitCount_95d88 2 = .ok (.iconst 1, 1) := by decide +kernel
theorem dJ13_bitCount_95d88_3 : decode cJ13_bitCount_95d88 3 = .ok (.lushr, 1) := by decide +kernel
theorem dJ13_bitCount_95d88_4 : decode cJ13_bitCount_95d88 4 = .ok (.ldc2_w 314, 3) := by decide +kernel
theorem dJ13_bitCount_95d88_7 : decode cJ13_bitCount_95d88 7 = .ok (.land, 1) := by decide +kernel
theorem dJ13_bitCount_95d88_8 : decode cJ13_bitCount_95d88 8 = .ok (.lsub, 1) := by decide +kernel
theorem dJ13_bitCount_95d88_9 : decode cJ13_bitCount_95d88 9 = .ok (.lstore_n 0, 1) := by decide +kernel
theorem dJ13_bitCount_95d88_10 : decode cJ13_bitCount_95d88 10 = .ok (.lload_n 0, 1) := by decide +kernel
theorem dJ13_bitCount_95d88_11 : decode cJ13_bitCount_95d88 11 = .ok (.ldc2_w 316, 3) := by decide +kernel
theorem dJ13_bitCount_95d88_14 : decode cJ13_bitCount_95d88 14 = .ok (.land, 1) := by decide +kernel
theorem dJ13_bitCount_95d88_15 : decode cJ13_bitCount_95d88 15 = .ok (.lload_n 0, 1) := by decide +kernel
theorem dJ13_bitCount_95d88_16 : decode cJ13_bitCount_95d88 16 = .ok (.iconst 2, 1) := by decide +kernel
theorem dJ13_bitCount_95d88_17 : decode cJ13_bitCount_95d88 17 = .ok (.lushr, 1) := by decide +kernel
theorem dJ13_bitCount_95d88_18 : decode cJ13_bitCount_95d88 18 = .ok (.ldc2_w 316, 3) := by decide +kernel
theorem dJ13_bitCount_95d88_21 : decode cJ13_bitCount_95d88 21 = .ok (.land, 1) := by decide +kernel
theorem dJ13_bitCount_95d88_22 : decode cJ13_bitCount_95d88 22 = .ok (.ladd, 1) := by decide +kernel
theorem dJ13_bitCount_95d88_23 : decode cJ13_bitCount_95d88 23 = .ok (.lstore_n 0, 1) := by decide +kernel
theorem dJ13_bitCount_95d88_24 : decode cJ13_bitCount_95d88 24 = .ok (.lload_n 0, 1) := by decide +kernel
theorem dJ13_bitCount_95d88_25 : decode cJ13_bitCount_95d88 25 = .ok (.lload_n 0, 1) := by decide +kernel
theorem dJ13_bitCount_95d88_26 : decode cJ13_bitCount_95d88 26 = .ok (.iconst 4, 1) := by decide +kernel
theorem dJ13_bitCount_95d88_27 : decode cJ13_bitCount_95d88 27 = .ok (.lushr, 1) := by decide +kernel
theorem dJ13_bitCount_95d88_28 : decode cJ13_bitCount_95d88 28 = .ok (.ladd, 1) := by decide +kernel
theorem dJ13_bitCount_95d88_29 : decode cJ13_bitCount_95d88 29 = .ok (.ldc2_w 318, 3) := by decide +kernel
theorem dJ13_bitCount_95d88_32 : decode cJ13_bitCount_95d88 32 = .ok (.land, 1) := by decide +kernel
theorem dJ13_bitCount_95d88_33 : decode cJ13_bitCount_95d88 33 = .ok (.lstore_n 0, 1) := by decide +kernel
theorem dJ13_bitCount_95d88_34 : decode cJ13_bitCount_95d88 34 = .ok (.lload_n 0, 1) := by decide +kernel
theorem dJ13_bitCount_95d88_35 : decode cJ13_bitCount_95d88 35 = .ok (.lload_n 0, 1) := by decide +kernel
theorem dJ13_bitCount_95d88_36 : decode cJ13_bitCount_95d88 36 = .ok (.bipush 8, 2) := by decide +kernel
theorem dJ13_bitCount_95d88_38 : decode cJ13_bitCount_95d88 38 = .ok (.lushr, 1) := by decide +kernel
theorem dJ13_bitCount_95d88_39 : decode cJ13_bitCount_95d88 39 = .ok (.ladd, 1) := by decide +kernel
theorem dJ13_bitCount_95d88_40 : decode cJ13_bitCount_95d88 40 = .ok (.lstore_n 0, 1) := by decide +kernel
theorem dJ13_bitCount_95d88_41 : decode cJ13_bitCount_95d88 41 = .ok (.lload_n 0, 1) := by decide +kernel
theorem dJ13_bitCount_95d88_42 : decode cJ13_bitCount_95d88 42 = .ok (.lload_n 0, 1) := by decide +kernel
theorem dJ13_bitCount_95d88_43 : decode cJ13_bitCount_95d88 43 = .ok (.bipush 16, 2) := by decide +kernel
theorem dJ13_bitCount_95d88_45 : decode cJ13_bitCount_95d88 45 = .ok (.lushr, 1) := by decide +kernel
theorem dJ13_bitCount_95d88_46 : decode cJ13_bitCount_95d88 46 = .ok (.ladd, 1) := by decide +kernel
theorem dJ13_bitCount_95d88_47 : decode cJ13_bitCount_95d88 47 = .ok (.lstore_n 0, 1) := by decide +kernel
theorem dJ13_bitCount_95d88_48 : decode cJ13_bitCount_95d88 48 = .ok (.lload_n 0, 1) := by decide +kernel
theorem dJ13_bitCount_95d88_49 : decode cJ13_bitCount_95d88 49 = .ok (.lload_n 0, 1) := by decide +kernel
theorem dJ13_bitCount_95d88_50 : decode cJ13_bitCount_95d88 50 = .ok (.bipush 32, 2) := by decide +kernel
theorem dJ13_bitCount_95d88_52 : decode cJ13_bitCount_95d88 52 = .ok (.lushr, 1) := by decide +kernel
theorem dJ13_bitCount_95d88_53 : decode cJ13_bitCount_95d88 53 = .ok (.ladd, 1) := by decide +kernel
theorem dJ13_bitCount_95d88_54 : decode cJ13_bitCount_95d88 54 = .ok (.lstore_n 0, 1) := by decide +kernel
theorem dJ13_bitCount_95d88_55 : decode cJ13_bitCount_95d88 55 = .ok (.lload_n 0, 1) := by decide +kernel
theorem dJ13_bitCount_95d88_56 : decode cJ13_bitCount_95d88 56 = .ok (.l2i, 1) := by decide +kernel
theorem dJ13_bitCount_95d88_57 : decode cJ13_bitCount_95d88 57 = .ok (.bipush 127, 2) := by decide +kernel
theorem dJ13_bitCount_95d88_59 : decode cJ13_bitCount_95d88 59 = .ok (.iand, 1) := by decide +kernel
theorem dJ13_bitCount_95d88_60 : decode cJ13_bitCount_95d88 60 = .ok (.ireturn, 1) := by decide +kernel
theorem dJ9_floorMod_7cf53_0 : decode cJ9_floorMod_7cf53 0 = .ok (.iload_n 0, 1) := by decide +kernel
theorem dJ9_floorMod_7cf53_1 : decode cJ9_floorMod_7cf53 1 = .ok (.iload_n 1, 1) := by decide +kernel
theorem dJ9_floorMod_7cf53_2 : decode cJ9_floorMod_7cf53 2 = .ok (.irem, 1) := by decide +kernel
theorem dJ9_floorMod_7cf53_3 : decode cJ9_floorMod_7cf53 3 = .ok (.istore_n 2, 1) := by decide +kernel
theorem dJ9_floorMod_7cf53_4 : decode cJ9_floorMod_7cf53 4 = .ok (.iload_n 0, 1) := by decide +kernel
theorem dJ9_floorMod_7cf53_5 : decode cJ9_floorMod_7cf53 5 = .ok (.iload_n 1, 1) := by decide +kernel
theorem dJ9_floorMod_7cf53_6 : decode cJ9_floorMod_7cf53 6 = .ok (.ixor, 1) := by decide +kernel
theorem dJ9_floorMod_7cf53_7 : decode cJ9_floorMod_7cf53 7 = .ok (.ifCond .ge 11, 3) := by decide +kernel
theorem dJ9_floorMod_7cf53_10 : decode cJ9_floorMod_7cf53 10 = .ok (.iload_n 2, 1) := by decide +kernel
theorem dJ9_floorMod_7cf53_11 : decode cJ9_floorMod_7cf53 11 = .ok (.ifCond .eq 7, 3) := by decide +kernel
theorem dJ9_floorMod_7cf53_14 : decode cJ9_floorMod_7cf53 14 = .ok (.iload_n 2, 1) := by decide +kernel
theorem dJ9_floorMod_7cf53_15 : decode cJ9_floorMod_7cf53 15 = .ok (.iload_n 1, 1) := by decide +kernel
theorem dJ9_floorMod_7cf53_16 : decode cJ9_floorMod_7cf53 16 = .ok (.iadd, 1) := by decide +kernel
theorem dJ9_floorMod_7cf53_17 : decode cJ9_floorMod_7cf53 17 = .ok (.ireturn, 1) := by decide +kernel
theorem dJ9_floorMod_7cf53_18 : decode cJ9_floorMod_7cf53 18 = .ok (.iload_n 2, 1) := by decide +kernel
theorem dJ9_floorMod_7cf53_19 : decode cJ9_floorMod_7cf53 19 = .ok (.ireturn, 1) := by decide +kernel
theorem dJ9_max_7cf53_0 : decode cJ9_max_7cf53 0 = .ok (.iload_n 0, 1) := by decide +kernel
theorem dJ9_max_7cf53_1 : decode cJ9_max_7cf53 1 = .ok (.iload_n 1, 1) := by decide +kernel
theorem dJ9_max_7cf53_2 : decode cJ9_max_7cf53 2 = .ok (.if_icmp .lt 7, 3) := by decide +kernel
theorem dJ9_max_7cf53_5 : decode cJ9_max_7cf53 5 = .ok (.iload_n 0, 1) := by decide +kernel
theorem dJ9_max_7cf53_6 : decode cJ9_max_7cf53 6 = .ok (.goto 4, 3) := by decide +kernel
theorem dJ9_max_7cf53_9 : decode cJ9_max_7cf53 9 = .ok (.iload_n 1, 1) := by decide +kernel
theorem dJ9_max_7cf53_10 : decode cJ9_max_7cf53 10 = .ok (.ireturn, 1) := by decide +kernel
theorem dJ9_min_7cf53_0 : decode cJ9_min_7cf53 0 = .ok (.iload_n 0, 1) := by decide +kernel
theorem dJ9_min_7cf53_1 : decode cJ9_min_7cf53 1 = .ok (.iload_n 1, 1) := by decide +kernel
theorem dJ9_min_7cf53_2 : decode cJ9_min_7cf53 2 = .ok (.if_icmp .gt 7, 3) := by decide +kernel
theorem dJ9_min_7cf53_5 : decode cJ9_min_7cf53 5 = .ok (.iload_n 0, 1) := by decide +kernel
theorem dJ9_min_7cf53_6 : decode cJ9_min_7cf53 6 = .ok (.goto 4, 3) := by decide +kernel
theorem dJ9_min_7cf53_9 : decode cJ9_min_7cf53 9 = .ok (.iload_n 1, 1) := by decide +kernel
theorem dJ9_min_7cf53_10 : decode cJ9_min_7cf53 10 = .ok (.ireturn, 1) := by decide +kernel
theorem dJ0_length_8abf5_0 : decode cJ0_length_8abf5 0 = .ok (.aload_n 0, 1) := by decide +kernel
theorem dJ0_length_8abf5_1 : decode cJ0_length_8abf5 1 = .ok (.getfield 9, 3) := by decide +kernel
theorem dJ0_length_8abf5_4 : decode cJ0_length_8abf5 4 = .ok (.arraylength, 1) := by decide +kernel
theorem dJ0_length_8abf5_5 : decode cJ0_length_8abf5 5 = .ok (.aload_n 0, 1) := by decide +kernel
theorem dJ0_length_8abf5_6 : decode cJ0_length_8abf5 6 = .ok (.invokevirtual 335, 3) := by decide +kernel
theorem dJ0_length_8abf5_9 : decode cJ0_length_8abf5 9 = .ok (.ishr, 1) := by decide +kernel
theorem dJ0_length_8abf5_10 : decode cJ0_length_8abf5 10 = .ok (.ireturn, 1) := by decide +kernel
theorem dJ0_charAt_5068e_0 : decode cJ0_charAt_5068e 0 = .ok (.aload_n 0, 1) := by decide +kernel
theorem dJ0_charAt_5068e_1 : decode cJ0_charAt_5068e 1 = .ok (.invokevirtual 492, 3) := by decide +kernel
theorem dJ0_charAt_5068e_4 : decode cJ0_charAt_5068e 4 = .ok (.ifCond .eq 12, 3) := by decide +kernel
theorem dJ0_charAt_5068e_7 : decode cJ0_charAt_5068e 7 = .ok (.aload_n 0, 1) := by decide +kernel
theorem dJ0_charAt_5068e_8 : decode cJ0_charAt_5068e 8 = .ok (.getfield 9, 3) := by decide +kernel
theorem dJ0_charAt_5068e_11 : decode cJ0_charAt_5068e 11 = .ok (.iload_n 1, 1) := by decide +kernel
theorem dJ0_charAt_5068e_12 : decode cJ0_charAt_5068e 12 = .ok (.invokestatic 495, 3) := by decide +kernel
theorem dJ0_charAt_5068e_15 : decode cJ0_charAt_5068e 15 = .ok (.ireturn, 1) := by decide +kernel
theorem dJ0_charAt_5068e_16 : decode cJ0_charAt_5068e 16 = .ok (.aload_n 0, 1) := by decide +kernel
theorem dJ0_charAt_5068e_17 : decode cJ0_charAt_5068e 17 = .ok (.getfield 9, 3) := by decide +kernel
theorem dJ0_charAt_5068e_20 : decode cJ0_charAt_5068e 20 = .ok (.iload_n 1, 1) := by decide +kernel
theorem dJ0_charAt_5068e_21 : decode cJ0_charAt_5068e 21 = .ok (.invokestatic 498, 3) := by decide +kernel
theorem dJ0_charAt_5068e_24 : decode cJ0_charAt_5068e 24 = .ok (.ireturn, 1) := by decide +kernel
theorem dJ0_coder_7d493_0 : decode cJ0_coder_7d493 0 = .ok (.getstatic 38, 3) := by decide +kernel
theorem dJ0_coder_7d493_3 : decode cJ0_coder_7d493 3 = .ok (.ifCond .eq 10, 3) := by decide +kernel
theorem dJ0_coder_7d493_6 : decode cJ0_coder_7d493 6 = .ok (.aload_n 0, 1) := by decide +kernel
theorem dJ0_coder_7d493_7 : decode cJ0_coder_7d493 7 = .ok (.getfield 15, 3) := by decide +kernel
theorem dJ0_coder_7d493_10 : decode cJ0_coder_7d493 10 = .ok (.goto 4, 3) := by decide +kernel
theorem dJ0_coder_7d493_13 : decode cJ0_coder_7d493 13 = .ok (.iconst 1, 1) := by decide +kernel
theorem dJ0_coder_7d493_14 : decode cJ0_coder_7d493 14 = .ok (.ireturn, 1) := by decide +kernel
theorem dJ0_isLatin1_aae02_0 : decode cJ0_isLatin1_aae02 0 = .ok (.getstatic 38, 3) := by decide +kernel
theorem dJ0_isLatin1_aae02_3 : decode cJ0_isLatin1_aae02 3 = .ok (.ifCond .eq 14, 3) := by decide +kernel
theorem dJ0_isLatin1_aae02_6 : decode cJ0_isLatin1_aae02 6 = .ok (.aload_n 0, 1) := by decide +kernel
theorem dJ0_isLatin1_aae02_7 : decode cJ0_isLatin1_aae02 7 = .ok (.getfield 15, 3) := by decide +kernel
theorem dJ0_isLatin1_aae02_10 : decode cJ0_isLatin1_aae02 10 = .ok (.ifCond .ne 7, 3) := by decide +kernel
theorem dJ0_isLatin1_aae02_13 : decode cJ0_isLatin1_aae02 13 = .ok (.iconst 1, 1) := by decide +kernel
theorem dJ0_isLatin1_aae02_14 : decode cJ0_isLatin1_aae02 14 = .ok (.goto 4, 3) := by decide +kernel
theorem dJ0_isLatin1_aae02_17 : decode cJ0_isLatin1_aae02 17 = .ok (.iconst 0, 1) := by decide +kernel
theorem dJ0_isLatin1_aae02_18 : decode cJ0_isLatin1_aae02 18 = .ok (.ireturn, 1) := by decide +kernel
theorem dJ0_checkIndex_df160_0 : decode cJ0_checkIndex_df160 0 = .ok (.iload_n 0, 1) := by decide +kernel
theorem dJ0_checkIndex_df160_1 : decode cJ0_checkIndex_df160 1 = .ok (.iload_n 1, 1) := by decide +kernel
theorem dJ0_checkIndex_df160_2 : decode cJ0_checkIndex_df160 2 = .ok (.getstatic 1053, 3) := by decide +kernel
theorem dJ0_checkIndex_df160_5 : decode cJ0_checkIndex_df160 5 = .ok (.invokestatic 1059, 3) := by decide +kernel
theorem dJ0_checkIndex_df160_8 : decode cJ0_checkIndex_df160 8 = .ok (.pop, 1) := by decide +kernel
theorem dJ0_checkIndex_df160_9 : decode cJ0_checkIndex_df160 9 = .ok (.return_, 1) := by decide +kernel
theorem dJ1_charAt_3b067_0 : decode cJ1_charAt_3b067 0 = .ok (.iload_n 1, 1) := by decide +kernel
theorem dJ1_charAt_3b067_1 : decode cJ1_charAt_3b067 1 = .ok (.aload_n 0, 1) := by decide +kernel
theorem dJ1_charAt_3b067_2 : decode cJ1_charAt_3b067 2 = .ok (.arraylength, 1) := by decide +kernel
theorem dJ1_charAt_3b067_3 : decode cJ1_charAt_3b067 3 = .ok (.invokestatic 9, 3) := by decide +kernel
theorem dJ1_charAt_3b067_6 : decode cJ1_charAt_3b067 6 = .ok (.aload_n 0, 1) := by decide +kernel
theorem dJ1_charAt_3b067_7 : decode cJ1_charAt_3b067 7 = .ok (.iload_n 1, 1) := by decide +kernel
theorem dJ1_charAt_3b067_8 : decode cJ1_charAt_3b067 8 = .ok (.baload, 1) := by decide +kernel
theorem dJ1_charAt_3b067_9 : decode cJ1_charAt_3b067 9 = .ok (.sipush 255, 3) := by decide +kernel
theorem dJ1_charAt_3b067_12 : decode cJ1_charAt_3b067 12 = .ok (.iand, 1) := by decide +kernel
theorem dJ1_charAt_3b067_13 : decode cJ1_charAt_3b067 13 = .ok (.i2c, 1) := by decide +kernel
theorem dJ1_charAt_3b067_14 : decode cJ1_charAt_3b067 14 = .ok (.ireturn, 1) := by decide +kernel
theorem dJ2_getChar_3b067_0 : decode cJ2_getChar_3b067 0 = .ok (.getstatic 44, 3) := by decide +kernel
theorem dJ2_getChar_3b067_3 : decode cJ2_getChar_3b067 3 = .ok (.ifCond .ne 25, 3) := by decide +kernel
theorem dJ2_getChar_3b067_6 : decode cJ2_getChar_3b067 6 = .ok (.iload_n 1, 1) := by decide +kernel
theorem dJ2_getChar_3b067_7 : decode cJ2_getChar_3b067 7 = .ok (.ifCond .lt 11, 3) := by decide +kernel
theorem dJ2_getChar_3b067_10 : decode cJ2_getChar_3b067 10 = .ok (.iload_n 1, 1) := by decide +kernel
theorem dJ2_getChar_3b067_11 : decode cJ2_getChar_3b067 11 = .ok (.aload_n 0, 1) := by decide +kernel
theorem dJ2_getChar_3b067_12 : decode cJ2_getChar_3b067 12 = .ok (.invokestatic 48, 3) := by decide +kernel
theorem dJ2_getChar_3b067_15 : decode cJ2_getChar_3b067 15 = .ok (.if_icmp .lt 13, 3) := by decide +kernel
theorem dJ2_getChar_3b067_18 : decode cJ2_getChar_3b067 18 = .ok (.new 52, 3) := by decide +kernel
theorem dJ2_getChar_3b067_21 : decode cJ2_getChar_3b067 21 = .ok (.dup, 1) := by decide +kernel
theorem dJ2_getChar_3b067_22 : decode cJ2_getChar_3b067 22 = .ok (.ldc 54, 2) := by decide +kernel
theorem dJ2_getChar_3b067_24 : decode cJ2_getChar_3b067 24 = .ok (.invokespecial 56, 3) := by decide +kernel
theorem dJ2_getChar_3b067_27 : decode cJ2_getChar_3b067 27 = .ok (.athrow, 1) := by decide +kernel
theorem dJ2_getChar_3b067_28 : decode cJ2_getChar_3b067 28 = .ok (.iload_n 1, 1) := by decide +kernel
theorem dJ2_getChar_3b067_29 : decode cJ2_getChar_3b067 29 = .ok (.iconst 1, 1) := by decide +kernel
theorem dJ2_getChar_3b067_30 : decode cJ2_getChar_3b067 30 = .ok (.ishl, 1) := by decide +kernel
theorem dJ2_getChar_3b067_31 : decode cJ2_getChar_3b067 31 = .ok (.istore_n 1, 1) := by decide +kernel
theorem dJ2_getChar_3b067_32 : decode cJ2_getChar_3b067 32 = .ok (.aload_n 0, 1) := by decide +kernel
theorem dJ2_getChar_3b067_33 : decode cJ2_getChar_3b067 33 = .ok (.iload_n 1, 1) := by decide +kernel
theorem dJ2_getChar_3b067_34 : decode cJ2_getChar_3b067 34 = .ok (.iinc 1 1, 3) := by decide +kernel
theorem dJ2_getChar_3b067_37 : decode cJ2_getChar_3b067 37 = .ok (.baload, 1) := by decide +kernel
theorem dJ2_getChar_3b067_38 : decode cJ2_getChar_3b067 38 = .ok (.sipush 255, 3) := by decide +kernel
theorem dJ2_getChar_3b067_41 : decode cJ2_getChar_3b067 41 = .ok (.iand, 1) := by decide +kernel
theorem dJ2_getChar_3b067_42 : decode cJ2_getChar_3b067 42 = .ok (.getstatic 59, 3) := by decide +kernel
theorem dJ2_getChar_3b067_45 : decode cJ2_getChar_3b067 45 = .ok (.ishl, 1) := by decide +kernel
theorem dJ2_getChar_3b067_46 : decode cJ2_getChar_3b067 46 = .ok (.aload_n 0, 1) := by decide +kernel
theorem dJ2_getChar_3b067_47 : decode cJ2_getChar_3b067 47 = .ok (.iload_n 1, 1) := by decide +kernel
theorem dJ2_getChar_3b067_48 : decode cJ2_getChar_3b067 48 = .ok (.baload, 1) := by decide +kernel
theorem dJ2_getChar_3b067_49 : decode cJ2_getChar_3b067 49 = .ok (.sipush 255, 3) := by decide +kernel
theorem dJ2_getChar_3b067_52 : decode cJ2_getChar_3b067 52 = .ok (.iand, 1) := by decide +kernel
theorem dJ2_getChar_3b067_53 : decode cJ2_getChar_3b067 53 = .ok (.getstatic 63, 3) := by decide +kernel
theorem dJ2_getChar_3b067_56 : decode cJ2_getChar_3b067 56 = .ok (.ishl, 1) := by decide +kernel
theorem dJ2_getChar_3b067_57 : decode cJ2_getChar_3b067 57 = .ok (.ior, 1) := by decide +kernel
theorem dJ2_getChar_3b067_58 : decode cJ2_getChar_3b067 58 = .ok (.i2c, 1) := by decide +kernel
theorem dJ2_getChar_3b067_59 : decode cJ2_getChar_3b067 59 = .ok (.ireturn, 1) := by decide +kernel
theorem dJ2_length_9d52b_0 : decode cJ2_length_9d52b 0 = .ok (.aload_n 0, 1) := by decide +kernel
theorem dJ2_length_9d52b_1 : decode cJ2_length_9d52b 1 = .ok (.arraylength, 1) := by decide +kernel
theorem dJ2_length_9d52b_2 : decode cJ2_length_9d52b 2 = .ok (.iconst 1, 1) := by decide +kernel
theorem dJ2_length_9d52b_3 : decode cJ2_length_9d52b 3 = .ok (.ishr, 1) := by decide +kernel
theorem dJ2_length_9d52b_4 : decode cJ2_length_9d52b 4 = .ok (.ireturn, 1) := by decide +kernel
theorem dJ2_charAt_3b067_0 : decode cJ2_charAt_3b067 0 = .ok (.iload_n 1, 1) := by decide +kernel
theorem dJ2_charAt_3b067_1 : decode cJ2_charAt_3b067 1 = .ok (.aload_n 0, 1) := by decide +kernel
theorem dJ2_charAt_3b067_2 : decode cJ2_charAt_3b067 2 = .ok (.invokestatic 67, 3) := by decide +kernel
theorem dJ2_charAt_3b067_5 : decode cJ2_charAt_3b067 5 = .ok (.aload_n 0, 1) := by decide +kernel
theorem dJ2_charAt_3b067_6 : decode cJ2_charAt_3b067 6 = .ok (.iload_n 1, 1) := by decide +kernel
theorem dJ2_charAt_3b067_7 : decode cJ2_charAt_3b067 7 = .ok (.invokestatic 71, 3) := by decide +kernel
theorem dJ2_charAt_3b067_10 : decode cJ2_charAt_3b067 10 = .ok (.ireturn, 1) := by decide +kernel
theorem dJ2_checkIndex_2214a_0 : decode cJ2_checkIndex_2214a 0 = .ok (.iload_n 0, 1) := by decide +kernel
theorem dJ2_checkIndex_2214a_1 : decode cJ2_checkIndex_2214a 1 = .ok (.aload_n 1, 1) := by decide +kernel
theorem dJ2_checkIndex_2214a_2 : decode cJ2_checkIndex_2214a 2 = .ok (.invokestatic 48, 3) := by decide +kernel
theorem dJ2_checkIndex_2214a_5 : decode cJ2_checkIndex_2214a 5 = .ok (.invokestatic 414, 3) := by decide +kernel
theorem dJ2_checkIndex_2214a_8 : decode cJ2_checkIndex_2214a 8 = .ok (.return_, 1) := by decide +kernel
theorem dJ3_checkIndex_8e157_0 : decode cJ3_checkIndex_8e157 0 = .ok (.iload_n 0, 1) := by decide +kernel
theorem dJ3_checkIndex_8e157_1 : decode cJ3_checkIndex_8e157 1 = .ok (.ifCond .lt 8, 3) := by decide +kernel
theorem dJ3_checkIndex_8e157_4 : decode cJ3_checkIndex_8e157 4 = .ok (.iload_n 0, 1) := by decide +kernel
theorem dJ3_checkIndex_8e157_5 : decode cJ3_checkIndex_8e157 5 = .ok (.iload_n 1, 1) := by decide +kernel
theorem dJ3_checkIndex_8e157_6 : decode cJ3_checkIndex_8e157 6 = .ok (.if_icmp .lt 10, 3) := by decide +kernel
theorem dJ3_checkIndex_8e157_9 : decode cJ3_checkIndex_8e157 9 = .ok (.aload_n 2, 1) := by decide +kernel
theorem dJ3_checkIndex_8e157_10 : decode cJ3_checkIndex_8e157 10 = .ok (.iload_n 0, 1) := by decide +kernel
theorem dJ3_checkIndex_8e157_11 : decode cJ3_checkIndex_8e157 11 = .ok (.iload_n 1, 1) := by decide +kernel
theorem dJ3_checkIndex_8e157_12 : decode cJ3_checkIndex_8e157 12 = .ok (.invokestatic 95, 3) := by decide +kernel
theorem dJ3_checkIndex_8e157_15 : decode cJ3_checkIndex_8e157 15 = .ok (.athrow, 1) := by decide +kernel
theorem dJ3_checkIndex_8e157_16 : decode cJ3_checkIndex_8e157 16 = .ok (.iload_n 0, 1) := by decide +kernel
theorem dJ3_checkIndex_8e157_17 : decode cJ3_checkIndex_8e157 17 = .ok (.ireturn, 1) := by decide +kernel
end
section
theorem dL_law_0 : decode cL_law 0 = .ok (.new 7, 3) := by decide +kernel
theorem dL_law_3 : decode cL_law 3 = .ok (.dup, 1) := by decide +kernel
theorem dL_law_4 : decode cL_law 4 = .ok (.invokespecial 9, 3) := by decide +kernel
theorem dL_law_7 : decode cL_law 7 = .ok (.astore_n 1, 1) := by decide +kernel
theorem dL_law_8 : decode cL_law 8 = .ok (.new 10, 3) := by decide +kernel
theorem dL_law_11 : decode cL_law 11 = .ok (.dup, 1) := by decide +kernel
theorem dL_law_12 : decode cL_law 12 = .ok (.invokespecial 12, 3) := by decide +kernel
theorem dL_law_15 : decode cL_law 15 = .ok (.astore_n 2, 1) := by decide +kernel
theorem dL_law_16 : decode cL_law 16 = .ok (.iconst 0, 1) := by decide +kernel
theorem dL_law_17 : decode cL_law 17 = .ok (.istore_n 3, 1) := by decide +kernel
theorem dL_law_18 : decode cL_law 18 = .ok (.iload_n 3, 1) := by decide +kernel
theorem dL_law_19 : decode cL_law 19 = .ok (.aload_n 0, 1) := by decide +kernel
theorem dL_law_20 : decode cL_law 20 = .ok (.arraylength, 1) := by decide +kernel
theorem dL_law_21 : decode cL_law 21 = .ok (.bipush 6, 2) := by decide +kernel
theorem dL_law_23 : decode cL_law 23 = .ok (.isub, 1) := by decide +kernel
theorem dL_law_24 : decode cL_law 24 = .ok (.if_icmp .gt 1442, 3) := by decide +kernel
theorem dL_law_27 : decode cL_law 27 = .ok (.aload_n 0, 1) := by decide +kernel
theorem dL_law_28 : decode cL_law 28 = .ok (.iload_n 3, 1) := by decide +kernel
theorem dL_law_29 : decode cL_law 29 = .ok (.iaload, 1) := by decide +kernel
theorem dL_law_30 : decode cL_law 30 = .ok (.bipush 63, 2) := by decide +kernel
theorem dL_law_32 : decode cL_law 32 = .ok (.iand, 1) := by decide +kernel
theorem dL_law_33 : decode cL_law 33 = .ok (.tableswitch 1427 0 42 #[187, 220, 253, 276, 309, 342, 385, 418, 441, 464, 487, 510, 553, 576, 599, 632, 665, 698, 721, 754, 787, 810, 833, 866, 899, 932, 955, 999, 1022, 1055, 1068, 1081, 1114, 1147, 1190, 1233, 1296, 1319, 1342, 1355, 1368, 1381, 1404], 187) := by decide +kernel
theorem dL_law_220 : decode cL_law 220 = .ok (.aload_n 1, 1) := by decide +kernel
theorem dL_law_221 : decode cL_law 221 = .ok (.aload_n 0, 1) := by decide +kernel
theorem dL_law_222 : decode cL_law 222 = .ok (.iload_n 3, 1) := by decide +kernel
theorem dL_law_223 : decode cL_law 223 = .ok (.iconst 1, 1) := by decide +kernel
theorem dL_law_224 : decode cL_law 224 = .ok (.iadd, 1) := by decide +kernel
theorem dL_law_225 : decode cL_law 225 = .ok (.iaload, 1) := by decide +kernel
theorem dL_law_226 : decode cL_law 226 = .ok (.aload_n 0, 1) := by decide +kernel
theorem dL_law_227 : decode cL_law 227 = .ok (.iload_n 3, 1) := by decide +kernel
theorem dL_law_228 : decode cL_law 228 = .ok (.iconst 2, 1) := by decide +kernel
theorem dL_law_229 : decode cL_law 229 = .ok (.iadd, 1) := by decide +kernel
theorem dL_law_230 : decode cL_law 230 = .ok (.iaload, 1) := by decide +kernel
theorem dL_law_231 : decode cL_law 231 = .ok (.invokevirtual 13, 3) := by decide +kernel
theorem dL_law_234 : decode cL_law 234 = .ok (.aload_n 2, 1) := by decide +kernel
theorem dL_law_235 : decode cL_law 235 = .ok (.aload_n 0, 1) := by decide +kernel
theorem dL_law_236 : decode cL_law 236 = .ok (.iload_n 3, 1) := by decide +kernel
theorem dL_law_237 : decode cL_law 237 = .ok (.iconst 1, 1) := by decide +kernel
theorem dL_law_238 : decode cL_law 238 = .ok (.iadd, 1) := by decide +kernel
theorem dL_law_239 : decode cL_law 239 = .ok (.iaload, 1) := by decide +kernel
theorem dL_law_240 : decode cL_law 240 = .ok (.aload_n 0, 1) := by decide +kernel
theorem dL_law_241 : decode cL_law 241 = .ok (.iload_n 3, 1) := by decide +kernel
theorem dL_law_242 : decode cL_law 242 = .ok (.iconst 2, 1) := by decide +kernel
theorem dL_law_243 : decode cL_law 243 = .ok (.iadd, 1) := by decide +kernel
theorem dL_law_244 : decode cL_law 244 = .ok (.iaload, 1) := by decide +kernel
theorem dL_law_245 : decode cL_law 245 = .ok (.invokevirtual 17, 3) := by decide +kernel
theorem dL_law_248 : decode cL_law 248 = .ok (.if_icmp .eq 1212, 3) := by decide +kernel
theorem dL_law_251 : decode cL_law 251 = .ok (.iconst 0, 1) := by decide +kernel
theorem dL_law_252 : decode cL_law 252 = .ok (.ireturn, 1) := by decide +kernel
theorem dL_law_253 : decode cL_law 253 = .ok (.aload_n 1, 1) := by decide +kernel
theorem dL_law_254 : decode cL_law 254 = .ok (.aload_n 0, 1) := by decide +kernel
theorem dL_law_255 : decode cL_law 255 = .ok (.iload_n 3, 1) := by decide +kernel
theorem dL_law_256 : decode cL_law 256 = .ok (.iconst 1, 1) := by decide +kernel
theorem dL_law_257 : decode cL_law 257 = .ok (.iadd, 1) := by decide +kernel
theorem dL_law_258 : decode cL_law 258 = .ok (.iaload, 1) := by decide +kernel
theorem dL_law_259 : decode cL_law 259 = .ok (.aload_n 0, 1) := by decide +kernel
theorem dL_law_260 : decode cL_law 260 = .ok (.iload_n 3, 1) := by decide +kernel
theorem dL_law_261 : decode cL_law 261 = .ok (.iconst 2, 1) := by decide +kernel
theorem dL_law_262 : decode cL_law 262 = .ok (.iadd, 1) := by decide +kernel
theorem dL_law_263 : decode cL_law 263 = .ok (.iaload, 1) := by decide +kernel
theorem dL_law_264 : decode cL_law 264 = .ok (.invokevirtual 18, 3) := by decide +kernel
theorem dL_law_267 : decode cL_law 267 = .ok (.aload_n 2, 1) := by decide +kernel
theorem dL_law_268 : decode cL_law 268 = .ok (.aload_n 0, 1) := by decide +kernel
theorem dL_law_269 : decode cL_law 269 = .ok (.iload_n 3, 1) := by decide +kernel
theorem dL_law_270 : decode cL_law 270 = .ok (.iconst 1, 1) := by decide +kernel
theorem dL_law_271 : decode cL_law 271 = .ok (.iadd, 1) := by decide +kernel
theorem dL_law_272 : decode cL_law 272 = .ok (.iaload, 1) := by decide +kernel
theorem dL_law_273 : decode cL_law 273 = .ok (.aload_n 0, 1) := by decide +kernel
theorem dL_law_274 : decode cL_law 274 = .ok (.iload_n 3, 1) := by decide +kernel
theorem dL_law_275 : decode cL_law 275 = .ok (.iconst 2, 1) := by decide +kernel
theorem dL_law_276 : decode cL_law 276 = .ok (.iadd, 1) := by decide +kernel
theorem dL_law_277 : decode cL_law 277 = .ok (.iaload, 1) := by decide +kernel
theorem dL_law_278 : decode cL_law 278 = .ok (.invokevirtual 21, 3) := by decide +kernel
theorem dL_law_281 : decode cL_law 281 = .ok (.if_icmp .eq 1179, 3) := by decide +kernel
theorem dL_law_284 : decode cL_law 284 = .ok (.iconst 0, 1) := by decide +kernel
theorem dL_law_285 : decode cL_law 285 = .ok (.ireturn, 1) := by decide +kernel
theorem dL_law_286 : decode cL_law 286 = .ok (.aload_n 1, 1) := by decide +kernel
theorem dL_law_287 : decode cL_law 287 = .ok (.aload_n 0, 1) := by decide +kernel
theorem dL_law_288 : decode cL_law 288 = .ok (.iload_n 3, 1) := by decide +kernel
theorem dL_law_289 : decode cL_law 289 = .ok (.iconst 1, 1) := by decide +kernel
theorem dL_law_290 : decode cL_law 290 = .ok (.iadd, 1) := by decide +kernel
theorem dL_law_291 : decode cL_law 291 = .ok (.iaload, 1) := by decide +kernel
theorem dL_law_292 : decode cL_law 292 = .ok (.invokevirtual 22, 3) := by decide +kernel
theorem dL_law_295 : decode cL_law 295 = .ok (.aload_n 2, 1) := by decide +kernel
theorem dL_law_296 : decode cL_law 296 = .ok (.aload_n 0, 1) := by decide +kernel
theorem dL_law_297 : decode cL_law 297 = .ok (.iload_n 3, 1) := by decide +kernel
theorem dL_law_298 : decode cL_law 298 = .ok (.iconst 1, 1) := by decide +kernel
theorem dL_law_299 : decode cL_law 299 = .ok (.iadd, 1) := by decide +kernel
theorem dL_law_300 : decode cL_law 300 = .ok (.iaload, 1) := by decide +kernel
theorem dL_law_301 : decode cL_law 301 = .ok (.invokevirtual 26, 3) := by decide +kernel
theorem dL_law_304 : decode cL_law 304 = .ok (.if_icmp .eq 1156, 3) := by decide +kernel
theorem dL_law_307 : decode cL_law 307 = .ok (.iconst 0, 1) := by decide +kernel
theorem dL_law_308 : decode cL_law 308 = .ok (.ireturn, 1) := by decide +kernel
theorem dL_law_309 : decode cL_law 309 = .ok (.aload_n 1, 1) := by decide +kernel
theorem dL_law_310 : decode cL_law 310 = .ok (.aload_n 0, 1) := by decide +kernel
theorem dL_law_311 : decode cL_law 311 = .ok (.iload_n 3, 1) := by decide +kernel
theorem dL_law_312 : decode cL_law 312 = .ok (.iconst 1, 1) := by decide +kernel
theorem dL_law_313 : decode cL_law 313 = .ok (.iadd, 1) := by decide +kernel
theorem dL_law_314 : decode cL_law 314 = .ok (.iaload, 1) := by decide +kernel
theorem dL_law_315 : decode cL_law 315 = .ok (.aload_n 0, 1) := by decide +kernel
theorem dL_law_316 : decode cL_law 316 = .ok (.iload_n 3, 1) := by decide +kernel
theorem dL_law_317 : decode cL_law 317 = .ok (.iconst 2, 1) := by decide +kernel
theorem dL_law_318 : decode cL_law 318 = .ok (.iadd, 1) := by decide +kernel
theorem dL_law_319 : decode cL_law 319 = .ok (.iaload, 1) := by decide +kernel
theorem dL_law_320 : decode cL_law 320 = .ok (.invokevirtual 27, 3) := by decide +kernel
theorem dL_law_323 : decode cL_law 323 = .ok (.aload_n 2, 1) := by decide +kernel
theorem dL_law_324 : decode cL_law 324 = .ok (.aload_n 0, 1) := by decide +kernel
theorem dL_law_325 : decode cL_law 325 = .ok (.iload_n 3, 1) := by decide +kernel
theorem dL_law_326 : decode cL_law 326 = .ok (.iconst 1, 1) := by decide +kernel
theorem dL_law_327 : decode cL_law 327 = .ok (.iadd, 1) := by decide +kernel
theorem dL_law_328 : decode cL_law 328 = .ok (.iaload, 1) := by decide +kernel
theorem dL_law_329 : decode cL_law 329 = .ok (.aload_n 0, 1) := by decide +kernel
theorem dL_law_330 : decode cL_law 330 = .ok (.iload_n 3, 1) := by decide +kernel
theorem dL_law_331 : decode cL_law 331 = .ok (.iconst 2, 1) := by decide +kernel
theorem dL_law_332 : decode cL_law 332 = .ok (.iadd, 1) := by decide +kernel
theorem dL_law_333 : decode cL_law 333 = .ok (.iaload, 1) := by decide +kernel
theorem dL_law_334 : decode cL_law 334 = .ok (.invokevirtual 30, 3) := by decide +kernel
theorem dL_law_337 : decode cL_law 337 = .ok (.if_icmp .eq 1123, 3) := by decide +kernel
theorem dL_law_340 : decode cL_law 340 = .ok (.iconst 0, 1) := by decide +kernel
theorem dL_law_341 : decode cL_law 341 = .ok (.ireturn, 1) := by decide +kernel
theorem dL_law_342 : decode cL_law 342 = .ok (.aload_n 1, 1) := by decide +kernel
theorem dL_law_343 : decode cL_law 343 = .ok (.aload_n 0, 1) := by decide +kernel
theorem dL_law_344 : decode cL_law 344 = .ok (.iload_n 3, 1) := by decide +kernel
theorem dL_law_345 : decode cL_law 345 = .ok (.iconst 1, 1) := by decide +kernel
theorem dL_law_346 : decode cL_law 346 = .ok (.iadd, 1) := by decide +kernel
theorem dL_law_347 : decode cL_law 347 = .ok (.iaload, 1) := by decide +kernel
theorem dL_law_348 : decode cL_law 348 = .ok (.aload_n 0, 1) := by decide +kernel
theorem dL_law_349 : decode cL_law 349 = .ok (.iload_n 3, 1) := by decide +kernel
theorem dL_law_350 : decode cL_law 350 = .ok (.iconst 2, 1) := by decide +kernel
theorem dL_law_351 : decode cL_law 351 = .ok (.iadd, 1) := by decide +kernel
theorem dL_law_352 : decode cL_law 352 = .ok (.iaload, 1) := by decide +kernel
theorem dL_law_353 : decode cL_law 353 = .ok (.invokevirtual 31, 3) := by decide +kernel
theorem dL_law_356 : decode cL_law 356 = .ok (.aload_n 2, 1) := by decide +kernel
theorem dL_law_357 : decode cL_law 357 = .ok (.aload_n 0, 1) := by decide +kernel
theorem dL_law_358 : decode cL_law 358 = .ok (.iload_n 3, 1) := by decide +kernel
theorem dL_law_359 : decode cL_law 359 = .ok (.iconst 1, 1) := by decide +kernel
theorem dL_law_360 : decode cL_law 360 = .ok (.iadd, 1) := by decide +kernel
theorem dL_law_361 : decode cL_law 361 = .ok (.iaload, 1) := by decide +kernel
theorem dL_law_362 : decode cL_law 362 = .ok (.aload_n 0, 1) := by decide +kernel
theorem dL_law_363 : decode cL_law 363 = .ok (.iload_n 3, 1) := by decide +kernel
theorem dL_law_364 : decode cL_law 364 = .ok (.iconst 2, 1) := by decide +kernel
theorem dL_law_365 : decode cL_law 365 = .ok (.iadd, 1) := by decide +kernel
theorem dL_law_366 : decode cL_law 366 = .ok (.iaload, 1) := by decide +kernel
theorem dL_law_367 : decode cL_law 367 = .ok (.invokevirtual 34, 3) := by decide +kernel
theorem dL_law_370 : decode cL_law 370 = .ok (.if_icmp .eq 1090, 3) := by decide +kernel
theorem dL_law_373 : decode cL_law 373 = .ok (.iconst 0, 1) := by decide +kernel
theorem dL_law_374 : decode cL_law 374 = .ok (.ireturn, 1) := by decide +kernel
theorem dL_law_375 : decode cL_law 375 = .ok (.aload_n 1, 1) := by decide +kernel
theorem dL_law_376 : decode cL_law 376 = .ok (.aload_n 0, 1) := by decide +kernel
theorem dL_law_377 : decode cL_law 377 = .ok (.iload_n 3, 1) := by decide +kernel
theorem dL_law_378 : decode cL_law 378 = .ok (.iconst 1, 1) := by decide +kernel
theorem dL_law_379 : decode cL_law 379 = .ok (.iadd, 1) := by decide +kernel
theorem dL_law_380 : decode cL_law 380 = .ok (.iaload, 1) := by decide +kernel
theorem dL_law_381 : decode cL_law 381 = .ok (.aload_n 0, 1) := by decide +kernel
theorem dL_law_382 : decode cL_law 382 = .ok (.iload_n 3, 1) := by decide +kernel
theorem dL_law_383 : decode cL_law 383 = .ok (.iconst 2, 1) := by decide +kernel
theorem dL_law_384 : decode cL_law 384 = .ok (.iadd, 1) := by decide +kernel
theorem dL_law_385 : decode cL_law 385 = .ok (.iaload, 1) := by decide +kernel
theorem dL_law_386 : decode cL_law 386 = .ok (.aload_n 0, 1) := by decide +kernel
theorem dL_law_387 : decode cL_law 387 = .ok (.iload_n 3, 1) := by decide +kernel
theorem dL_law_388 : decode cL_law 388 = .ok (.iconst 3, 1) := by decide +kernel
theorem dL_law_389 : decode cL_law 389 = .ok (.iadd, 1) := by decide +kernel
theorem dL_law_390 : decode cL_law 390 = .ok (.iaload, 1) := by decide +kernel
theorem dL_law_391 : decode cL_law 391 = .ok (.invokevirtual 35, 3) := by decide +kernel
theorem dL_law_394 : decode cL_law 394 = .ok (.aload_n 2, 1) := by decide +kernel
theorem dL_law_395 : decode cL_law 395 = .ok (.aload_n 0, 1) := by decide +kernel
theorem dL_law_396 : decode cL_law 396 = .ok (.iload_n 3, 1) := by decide +kernel
theorem dL_law_397 : decode cL_law 397 = .ok (.iconst 1, 1) := by decide +kernel
theorem dL_law_398 : decode cL_law 398 = .ok (.iadd, 1) := by decide +kernel
theorem dL_law_399 : decode cL_law 399 = .ok (.iaload, 1) := by decide +kernel
theorem dL_law_400 : decode cL_law 400 = .ok (.aload_n 0, 1) := by decide +kernel
theorem dL_law_401 : decode cL_law 401 = .ok (.iload_n 3, 1) := by decide +kernel
theorem dL_law_402 : decode cL_law 402 = .ok (.iconst 2, 1) := by decide +kernel
theorem dL_law_403 : decode cL_law 403 = .ok (.iadd, 1) := by decide +kernel
theorem dL_law_404 : decode cL_law 404 = .ok (.iaload, 1) := by decide +kernel
theorem dL_law_405 : decode cL_law 405 = .ok (.aload_n 0, 1) := by decide +kernel
theorem dL_law_406 : decode cL_law 406 = .ok (.iload_n 3, 1) := by decide +kernel
theorem dL_law_407 : decode cL_law 407 = .ok (.iconst 3, 1) := by decide +kernel
theorem dL_law_408 : decode cL_law 408 = .ok (.iadd, 1) := by decide +kernel
theorem dL_law_409 : decode cL_law 409 = .ok (.iaload, 1) := by decide +kernel
theorem dL_law_410 : decode cL_law 410 = .ok (.invokevirtual 39, 3) := by decide +kernel
theorem dL_law_413 : decode cL_law 413 = .ok (.if_icmp .eq 1047, 3) := by decide +kernel
theorem dL_law_416 : decode cL_law 416 = .ok (.iconst 0, 1) := by decide +kernel
theorem dL_law_417 : decode cL_law 417 = .ok (.ireturn, 1) := by decide +kernel
theorem dL_law_418 : decode cL_law 418 = .ok (.aload_n 1, 1) := by decide +kernel
theorem dL_law_419 : decode cL_law 419 = .ok (.aload_n 0, 1) := by decide +kernel
theorem dL_law_420 : decode cL_law 420 = .ok (.iload_n 3, 1) := by decide +kernel
theorem dL_law_421 : decode cL_law 421 = .ok (.iconst 1, 1) := by decide +kernel
theorem dL_law_422 : decode cL_law 422 = .ok (.iadd, 1) := by decide +kernel
theorem dL_law_423 : decode cL_law 423 = .ok (.iaload, 1) := by decide +kernel
theorem dL_law_424 : decode cL_law 424 = .ok (.aload_n 0, 1) := by decide +kernel
theorem dL_law_425 : decode cL_law 425 = .ok (.iload_n 3, 1) := by decide +kernel
theorem dL_law_426 : decode cL_law 426 = .ok (.iconst 2, 1) := by decide +kernel
theorem dL_law_427 : decode cL_law 427 = .ok (.iadd, 1) := by decide +kernel
theorem dL_law_428 : decode cL_law 428 = .ok (.iaload, 1) := by decide +kernel
theorem dL_law_429 : decode cL_law 429 = .ok (.invokevirtual 40, 3) := by decide +kernel
theorem dL_law_432 : decode cL_law 432 = .ok (.aload_n 2, 1) := by decide +kernel
theorem dL_law_433 : decode cL_law 433 = .ok (.aload_n 0, 1) := by decide +kernel
theorem dL_law_434 : decode cL_law 434 = .ok (.iload_n 3, 1) := by decide +kernel
theorem dL_law_435 : decode cL_law 435 = .ok (.iconst 1, 1) := by decide +kernel
theorem dL_law_436 : decode cL_law 436 = .ok (.iadd, 1) := by decide +kernel
theorem dL_law_437 : decode cL_law 437 = .ok (.iaload, 1) := by decide +kernel
theorem dL_law_438 : decode cL_law 438 = .ok (.aload_n 0, 1) := by decide +kernel
theorem dL_law_439 : decode cL_law 439 = .ok (.iload_n 3, 1) := by decide +kernel
theorem dL_law_440 : decode cL_law 440 = .ok (.iconst 2, 1) := by decide +kernel
theorem dL_law_441 : decode cL_law 441 = .ok (.iadd, 1) := by decide +kernel
theorem dL_law_442 : decode cL_law 442 = .ok (.iaload, 1) := by decide +kernel
theorem dL_law_443 : decode cL_law 443 = .ok (.invokevirtual 43, 3) := by decide +kernel
theorem dL_law_446 : decode cL_law 446 = .ok (.if_icmp .eq 1014, 3) := by decide +kernel
theorem dL_law_449 : decode cL_law 449 = .ok (.iconst 0, 1) := by decide +kernel
theorem dL_law_450 : decode cL_law 450 = .ok (.ireturn, 1) := by decide +kernel
theorem dL_law_451 : decode cL_law 451 = .ok (.aload_n 1, 1) := by decide +kernel
theorem dL_law_452 : decode cL_law 452 = .ok (.aload_n 0, 1) := by decide +kernel
theorem dL_law_453 : decode cL_law 453 = .ok (.iload_n 3, 1) := by decide +kernel
theorem dL_law_454 : decode cL_law 454 = .ok (.iconst 1, 1) := by decide +kernel
theorem dL_law_455 : decode cL_law 455 = .ok (.iadd, 1) := by decide +kernel
theorem dL_law_456 : decode cL_law 456 = .ok (.iaload, 1) := by decide +kernel
theorem dL_law_457 : decode cL_law 457 = .ok (.invokevirtual 44, 3) := by decide +kernel
theorem dL_law_460 : decode cL_law 460 = .ok (.aload_n 2, 1) := by decide +kernel
theorem dL_law_461 : decode cL_law 461 = .ok (.aload_n 0, 1) := by decide +kernel
theorem dL_law_462 : decode cL_law 462 = .ok (.iload_n 3, 1) := by decide +kernel
theorem dL_law_463 : decode cL_law 463 = .ok (.iconst 1, 1) := by decide +kernel
theorem dL_law_464 : decode cL_law 464 = .ok (.iadd, 1) := by decide +kernel
theorem dL_law_465 : decode cL_law 465 = .ok (.iaload, 1) := by decide +kernel
theorem dL_law_466 : decode cL_law 466 = .ok (.invokevirtual 47, 3) := by decide +kernel
theorem dL_law_469 : decode cL_law 469 = .ok (.if_icmp .eq 991, 3) := by decide +kernel
theorem dL_law_472 : decode cL_law 472 = .ok (.iconst 0, 1) := by decide +kernel
theorem dL_law_473 : decode cL_law 473 = .ok (.ireturn, 1) := by decide +kernel
theorem dL_law_474 : decode cL_law 474 = .ok (.aload_n 1, 1) := by decide +kernel
theorem dL_law_475 : decode cL_law 475 = .ok (.aload_n 0, 1) := by decide +kernel
theorem dL_law_476 : decode cL_law 476 = .ok (.iload_n 3, 1) := by decide +kernel
theorem dL_law_477 : decode cL_law 477 = .ok (.iconst 1, 1) := by decide +kernel
theorem dL_law_478 : decode cL_law 478 = .ok (.iadd, 1) := by decide +kernel
theorem dL_law_479 : decode cL_law 479 = .ok (.iaload, 1) := by decide +kernel
theorem dL_law_480 : decode cL_law 480 = .ok (.invokevirtual 48, 3) := by decide +kernel
theorem dL_law_483 : decode cL_law 483 = .ok (.aload_n 2, 1) := by decide +kernel
theorem dL_law_484 : decode cL_law 484 = .ok (.aload_n 0, 1) := by decide +kernel
theorem dL_law_485 : decode cL_law 485 = .ok (.iload_n 3, 1) := by decide +kernel
theorem dL_law_486 : decode cL_law 486 = .ok (.iconst 1, 1) := by decide +kernel
theorem dL_law_487 : decode cL_law 487 = .ok (.iadd, 1) := by decide +kernel
theorem dL_law_488 : decode cL_law 488 = .ok (.iaload, 1) := by decide +kernel
theorem dL_law_489 : decode cL_law 489 = .ok (.invokevirtual 51, 3) := by decide +kernel
theorem dL_law_492 : decode cL_law 492 = .ok (.if_icmp .eq 968, 3) := by decide +kernel
theorem dL_law_495 : decode cL_law 495 = .ok (.iconst 0, 1) := by decide +kernel
theorem dL_law_496 : decode cL_law 496 = .ok (.ireturn, 1) := by decide +kernel
theorem dL_law_497 : decode cL_law 497 = .ok (.aload_n 1, 1) := by decide +kernel
theorem dL_law_498 : decode cL_law 498 = .ok (.aload_n 0, 1) := by decide +kernel
theorem dL_law_499 : decode cL_law 499 = .ok (.iload_n 3, 1) := by decide +kernel
theorem dL_law_500 : decode cL_law 500 = .ok (.iconst 1, 1) := by decide +kernel
theorem dL_law_501 : decode cL_law 501 = .ok (.iadd, 1) := by decide +kernel
theorem dL_law_502 : decode cL_law 502 = .ok (.iaload, 1) := by decide +kernel
theorem dL_law_503 : decode cL_law 503 = .ok (.invokevirtual 52, 3) := by decide +kernel
theorem dL_law_506 : decode cL_law 506 = .ok (.aload_n 2, 1) := by decide +kernel
theorem dL_law_507 : decode cL_law 507 = .ok (.aload_n 0, 1) := by decide +kernel
theorem dL_law_508 : decode cL_law 508 = .ok (.iload_n 3, 1) := by decide +kernel
theorem dL_law_509 : decode cL_law 509 = .ok (.iconst 1, 1) := by decide +kernel
theorem dL_law_510 : decode cL_law 510 = .ok (.iadd, 1) := by decide +kernel
theorem dL_law_511 : decode cL_law 511 = .ok (.iaload, 1) := by decide +kernel
theorem dL_law_512 : decode cL_law 512 = .ok (.invokevirtual 55, 3) := by decide +kernel
theorem dL_law_515 : decode cL_law 515 = .ok (.if_icmp .eq 945, 3) := by decide +kernel
end
section
theorem dL_law_518 : decode cL_law 518 = .ok (.iconst 0, 1) := by decide +kernel
theorem dL_law_519 : decode cL_law 519 = .ok (.ireturn, 1) := by decide +kernel
theorem dL_law_520 : decode cL_law 520 = .ok (.aload_n 1, 1) := by decide +kernel
theorem dL_law_521 : decode cL_law 521 = .ok (.aload_n 0, 1) := by decide +kernel
theorem dL_law_522 : decode cL_law 522 = .ok (.iload_n 3, 1) := by decide +kernel
theorem dL_law_523 : decode cL_law 523 = .ok (.iconst 1, 1) := by decide +kernel
theorem dL_law_524 : decode cL_law 524 = .ok (.iadd, 1) := by decide +kernel
theorem dL_law_525 : decode cL_law 525 = .ok (.iaload, 1) := by decide +kernel
theorem dL_law_526 : decode cL_law 526 = .ok (.invokevirtual 56, 3) := by decide +kernel
theorem dL_law_529 : decode cL_law 529 = .ok (.aload_n 2, 1) := by decide +kernel
theorem dL_law_530 : decode cL_law 530 = .ok (.aload_n 0, 1) := by decide +kernel
theorem dL_law_531 : decode cL_law 531 = .ok (.iload_n 3, 1) := by decide +kernel
theorem dL_law_532 : decode cL_law 532 = .ok (.iconst 1, 1) := by decide +kernel
theorem dL_law_533 : decode cL_law 533 = .ok (.iadd, 1) := by decide +kernel
theorem dL_law_534 : decode cL_law 534 = .ok (.iaload, 1) := by decide +kernel
theorem dL_law_535 : decode cL_law 535 = .ok (.invokevirtual 59, 3) := by decide +kernel
theorem dL_law_538 : decode cL_law 538 = .ok (.if_icmp .eq 922, 3) := by decide +kernel
theorem dL_law_541 : decode cL_law 541 = .ok (.iconst 0, 1) := by decide +kernel
theorem dL_law_542 : decode cL_law 542 = .ok (.ireturn, 1) := by decide +kernel
theorem dL_law_543 : decode cL_law 543 = .ok (.aload_n 1, 1) := by decide +kernel
theorem dL_law_544 : decode cL_law 544 = .ok (.aload_n 0, 1) := by decide +kernel
theorem dL_law_545 : decode cL_law 545 = .ok (.iload_n 3, 1) := by decide +kernel
theorem dL_law_546 : decode cL_law 546 = .ok (.iconst 1, 1) := by decide +kernel
theorem dL_law_547 : decode cL_law 547 = .ok (.iadd, 1) := by decide +kernel
theorem dL_law_548 : decode cL_law 548 = .ok (.iaload, 1) := by decide +kernel
theorem dL_law_549 : decode cL_law 549 = .ok (.aload_n 0, 1) := by decide +kernel
theorem dL_law_550 : decode cL_law 550 = .ok (.iload_n 3, 1) := by decide +kernel
theorem dL_law_551 : decode cL_law 551 = .ok (.iconst 2, 1) := by decide +kernel
theorem dL_law_552 : decode cL_law 552 = .ok (.iadd, 1) := by decide +kernel
theorem dL_law_553 : decode cL_law 553 = .ok (.iaload, 1) := by decide +kernel
theorem dL_law_554 : decode cL_law 554 = .ok (.aload_n 0, 1) := by decide +kernel
theorem dL_law_555 : decode cL_law 555 = .ok (.iload_n 3, 1) := by decide +kernel
theorem dL_law_556 : decode cL_law 556 = .ok (.iconst 3, 1) := by decide +kernel
theorem dL_law_557 : decode cL_law 557 = .ok (.iadd, 1) := by decide +kernel
theorem dL_law_558 : decode cL_law 558 = .ok (.iaload, 1) := by decide +kernel
theorem dL_law_559 : decode cL_law 559 = .ok (.invokevirtual 60, 3) := by decide +kernel
theorem dL_law_562 : decode cL_law 562 = .ok (.aload_n 2, 1) := by decide +kernel
theorem dL_law_563 : decode cL_law 563 = .ok (.aload_n 0, 1) := by decide +kernel
theorem dL_law_564 : decode cL_law 564 = .ok (.iload_n 3, 1) := by decide +kernel
theorem dL_law_565 : decode cL_law 565 = .ok (.iconst 1, 1) := by decide +kernel
theorem dL_law_566 : decode cL_law 566 = .ok (.iadd, 1) := by decide +kernel
theorem dL_law_567 : decode cL_law 567 = .ok (.iaload, 1) := by decide +kernel
theorem dL_law_568 : decode cL_law 568 = .ok (.aload_n 0, 1) := by decide +kernel
theorem dL_law_569 : decode cL_law 569 = .ok (.iload_n 3, 1) := by decide +kernel
theorem dL_law_570 : decode cL_law 570 = .ok (.iconst 2, 1) := by decide +kernel
theorem dL_law_571 : decode cL_law 571 = .ok (.iadd, 1) := by decide +kernel
theorem dL_law_572 : decode cL_law 572 = .ok (.iaload, 1) := by decide +kernel
theorem dL_law_573 : decode cL_law 573 = .ok (.aload_n 0, 1) := by decide +kernel
theorem dL_law_574 : decode cL_law 574 = .ok (.iload_n 3, 1) := by decide +kernel
theorem dL_law_575 : decode cL_law 575 = .ok (.iconst 3, 1) := by decide +kernel
theorem dL_law_576 : decode cL_law 576 = .ok (.iadd, 1) := by decide +kernel
theorem dL_law_577 : decode cL_law 577 = .ok (.iaload, 1) := by decide +kernel
theorem dL_law_578 : decode cL_law 578 = .ok (.invokevirtual 63, 3) := by decide +kernel
theorem dL_law_581 : decode cL_law 581 = .ok (.if_icmp .eq 879, 3) := by decide +kernel
theorem dL_law_584 : decode cL_law 584 = .ok (.iconst 0, 1) := by decide +kernel
theorem dL_law_585 : decode cL_law 585 = .ok (.ireturn, 1) := by decide +kernel
theorem dL_law_586 : decode cL_law 586 = .ok (.aload_n 1, 1) := by decide +kernel
theorem dL_law_587 : decode cL_law 587 = .ok (.aload_n 0, 1) := by decide +kernel
theorem dL_law_588 : decode cL_law 588 = .ok (.iload_n 3, 1) := by decide +kernel
theorem dL_law_589 : decode cL_law 589 = .ok (.iconst 1, 1) := by decide +kernel
theorem dL_law_590 : decode cL_law 590 = .ok (.iadd, 1) := by decide +kernel
theorem dL_law_591 : decode cL_law 591 = .ok (.iaload, 1) := by decide +kernel
theorem dL_law_592 : decode cL_law 592 = .ok (.invokevirtual 64, 3) := by decide +kernel
theorem dL_law_595 : decode cL_law 595 = .ok (.aload_n 2, 1) := by decide +kernel
theorem dL_law_596 : decode cL_law 596 = .ok (.aload_n 0, 1) := by decide +kernel
theorem dL_law_597 : decode cL_law 597 = .ok (.iload_n 3, 1) := by decide +kernel
theorem dL_law_598 : decode cL_law 598 = .ok (.iconst 1, 1) := by decide +kernel
theorem dL_law_599 : decode cL_law 599 = .ok (.iadd, 1) := by decide +kernel
theorem dL_law_600 : decode cL_law 600 = .ok (.iaload, 1) := by decide +kernel
theorem dL_law_601 : decode cL_law 601 = .ok (.invokevirtual 67, 3) := by decide +kernel
theorem dL_law_604 : decode cL_law 604 = .ok (.if_icmp .eq 856, 3) := by decide +kernel
theorem dL_law_607 : decode cL_law 607 = .ok (.iconst 0, 1) := by decide +kernel
theorem dL_law_608 : decode cL_law 608 = .ok (.ireturn, 1) := by decide +kernel
theorem dL_law_609 : decode cL_law 609 = .ok (.aload_n 1, 1) := by decide +kernel
theorem dL_law_610 : decode cL_law 610 = .ok (.aload_n 0, 1) := by decide +kernel
theorem dL_law_611 : decode cL_law 611 = .ok (.iload_n 3, 1) := by decide +kernel
theorem dL_law_612 : decode cL_law 612 = .ok (.iconst 1, 1) := by decide +kernel
theorem dL_law_613 : decode cL_law 613 = .ok (.iadd, 1) := by decide +kernel
theorem dL_law_614 : decode cL_law 614 = .ok (.iaload, 1) := by decide +kernel
theorem dL_law_615 : decode cL_law 615 = .ok (.invokevirtual 68, 3) := by decide +kernel
theorem dL_law_618 : decode cL_law 618 = .ok (.aload_n 2, 1) := by decide +kernel
theorem dL_law_619 : decode cL_law 619 = .ok (.aload_n 0, 1) := by decide +kernel
theorem dL_law_620 : decode cL_law 620 = .ok (.iload_n 3, 1) := by decide +kernel
theorem dL_law_621 : decode cL_law 621 = .ok (.iconst 1, 1) := by decide +kernel
theorem dL_law_622 : decode cL_law 622 = .ok (.iadd, 1) := by decide +kernel
theorem dL_law_623 : decode cL_law 623 = .ok (.iaload, 1) := by decide +kernel
theorem dL_law_624 : decode cL_law 624 = .ok (.invokevirtual 71, 3) := by decide +kernel
theorem dL_law_627 : decode cL_law 627 = .ok (.if_icmp .eq 833, 3) := by decide +kernel
theorem dL_law_630 : decode cL_law 630 = .ok (.iconst 0, 1) := by decide +kernel
theorem dL_law_631 : decode cL_law 631 = .ok (.ireturn, 1) := by decide +kernel
theorem dL_law_632 : decode cL_law 632 = .ok (.aload_n 1, 1) := by decide +kernel
theorem dL_law_633 : decode cL_law 633 = .ok (.aload_n 0, 1) := by decide +kernel
theorem dL_law_634 : decode cL_law 634 = .ok (.iload_n 3, 1) := by decide +kernel
theorem dL_law_635 : decode cL_law 635 = .ok (.iconst 1, 1) := by decide +kernel
theorem dL_law_636 : decode cL_law 636 = .ok (.iadd, 1) := by decide +kernel
theorem dL_law_637 : decode cL_law 637 = .ok (.iaload, 1) := by decide +kernel
theorem dL_law_638 : decode cL_law 638 = .ok (.aload_n 0, 1) := by decide +kernel
theorem dL_law_639 : decode cL_law 639 = .ok (.iload_n 3, 1) := by decide +kernel
theorem dL_law_640 : decode cL_law 640 = .ok (.iconst 2, 1) := by decide +kernel
theorem dL_law_641 : decode cL_law 641 = .ok (.iadd, 1) := by decide +kernel
theorem dL_law_642 : decode cL_law 642 = .ok (.iaload, 1) := by decide +kernel
theorem dL_law_643 : decode cL_law 643 = .ok (.invokevirtual 72, 3) := by decide +kernel
theorem dL_law_646 : decode cL_law 646 = .ok (.aload_n 2, 1) := by decide +kernel
theorem dL_law_647 : decode cL_law 647 = .ok (.aload_n 0, 1) := by decide +kernel
theorem dL_law_648 : decode cL_law 648 = .ok (.iload_n 3, 1) := by decide +kernel
theorem dL_law_649 : decode cL_law 649 = .ok (.iconst 1, 1) := by decide +kernel
theorem dL_law_650 : decode cL_law 650 = .ok (.iadd, 1) := by decide +kernel
theorem dL_law_651 : decode cL_law 651 = .ok (.iaload, 1) := by decide +kernel
theorem dL_law_652 : decode cL_law 652 = .ok (.aload_n 0, 1) := by decide +kernel
theorem dL_law_653 : decode cL_law 653 = .ok (.iload_n 3, 1) := by decide +kernel
theorem dL_law_654 : decode cL_law 654 = .ok (.iconst 2, 1) := by decide +kernel
theorem dL_law_655 : decode cL_law 655 = .ok (.iadd, 1) := by decide +kernel
theorem dL_law_656 : decode cL_law 656 = .ok (.iaload, 1) := by decide +kernel
theorem dL_law_657 : decode cL_law 657 = .ok (.invokevirtual 75, 3) := by decide +kernel
theorem dL_law_660 : decode cL_law 660 = .ok (.if_icmp .eq 800, 3) := by decide +kernel
theorem dL_law_663 : decode cL_law 663 = .ok (.iconst 0, 1) := by decide +kernel
theorem dL_law_664 : decode cL_law 664 = .ok (.ireturn, 1) := by decide +kernel
theorem dL_law_665 : decode cL_law 665 = .ok (.aload_n 1, 1) := by decide +kernel
theorem dL_law_666 : decode cL_law 666 = .ok (.aload_n 0, 1) := by decide +kernel
theorem dL_law_667 : decode cL_law 667 = .ok (.iload_n 3, 1) := by decide +kernel
theorem dL_law_668 : decode cL_law 668 = .ok (.iconst 1, 1) := by decide +kernel
theorem dL_law_669 : decode cL_law 669 = .ok (.iadd, 1) := by decide +kernel
theorem dL_law_670 : decode cL_law 670 = .ok (.iaload, 1) := by decide +kernel
theorem dL_law_671 : decode cL_law 671 = .ok (.aload_n 0, 1) := by decide +kernel
theorem dL_law_672 : decode cL_law 672 = .ok (.iload_n 3, 1) := by decide +kernel
theorem dL_law_673 : decode cL_law 673 = .ok (.iconst 2, 1) := by decide +kernel
theorem dL_law_674 : decode cL_law 674 = .ok (.iadd, 1) := by decide +kernel
theorem dL_law_675 : decode cL_law 675 = .ok (.iaload, 1) := by decide +kernel
theorem dL_law_676 : decode cL_law 676 = .ok (.invokevirtual 76, 3) := by decide +kernel
theorem dL_law_679 : decode cL_law 679 = .ok (.aload_n 2, 1) := by decide +kernel
theorem dL_law_680 : decode cL_law 680 = .ok (.aload_n 0, 1) := by decide +kernel
theorem dL_law_681 : decode cL_law 681 = .ok (.iload_n 3, 1) := by decide +kernel
theorem dL_law_682 : decode cL_law 682 = .ok (.iconst 1, 1) := by decide +kernel
theorem dL_law_683 : decode cL_law 683 = .ok (.iadd, 1) := by decide +kernel
theorem dL_law_684 : decode cL_law 684 = .ok (.iaload, 1) := by decide +kernel
theorem dL_law_685 : decode cL_law 685 = .ok (.aload_n 0, 1) := by decide +kernel
theorem dL_law_686 : decode cL_law 686 = .ok (.iload_n 3, 1) := by decide +kernel
theorem dL_law_687 : decode cL_law 687 = .ok (.iconst 2, 1) := by decide +kernel
theorem dL_law_688 : decode cL_law 688 = .ok (.iadd, 1) := by decide +kernel
theorem dL_law_689 : decode cL_law 689 = .ok (.iaload, 1) := by decide +kernel
theorem dL_law_690 : decode cL_law 690 = .ok (.invokevirtual 79, 3) := by decide +kernel
theorem dL_law_693 : decode cL_law 693 = .ok (.if_icmp .eq 767, 3) := by decide +kernel
theorem dL_law_696 : decode cL_law 696 = .ok (.iconst 0, 1) := by decide +kernel
theorem dL_law_697 : decode cL_law 697 = .ok (.ireturn, 1) := by decide +kernel
theorem dL_law_698 : decode cL_law 698 = .ok (.aload_n 1, 1) := by decide +kernel
theorem dL_law_699 : decode cL_law 699 = .ok (.aload_n 0, 1) := by decide +kernel
theorem dL_law_700 : decode cL_law 700 = .ok (.iload_n 3, 1) := by decide +kernel
theorem dL_law_701 : decode cL_law 701 = .ok (.iconst 1, 1) := by decide +kernel
theorem dL_law_702 : decode cL_law 702 = .ok (.iadd, 1) := by decide +kernel
theorem dL_law_703 : decode cL_law 703 = .ok (.iaload, 1) := by decide +kernel
theorem dL_law_704 : decode cL_law 704 = .ok (.aload_n 0, 1) := by decide +kernel
theorem dL_law_705 : decode cL_law 705 = .ok (.iload_n 3, 1) := by decide +kernel
theorem dL_law_706 : decode cL_law 706 = .ok (.iconst 2, 1) := by decide +kernel
theorem dL_law_707 : decode cL_law 707 = .ok (.iadd, 1) := by decide +kernel
theorem dL_law_708 : decode cL_law 708 = .ok (.iaload, 1) := by decide +kernel
theorem dL_law_709 : decode cL_law 709 = .ok (.invokevirtual 80, 3) := by decide +kernel
theorem dL_law_712 : decode cL_law 712 = .ok (.aload_n 2, 1) := by decide +kernel
theorem dL_law_713 : decode cL_law 713 = .ok (.aload_n 0, 1) := by decide +kernel
theorem dL_law_714 : decode cL_law 714 = .ok (.iload_n 3, 1) := by decide +kernel
theorem dL_law_715 : decode cL_law 715 = .ok (.iconst 1, 1) := by decide +kernel
theorem dL_law_716 : decode cL_law 716 = .ok (.iadd, 1) := by decide +kernel
theorem dL_law_717 : decode cL_law 717 = .ok (.iaload, 1) := by decide +kernel
theorem dL_law_718 : decode cL_law 718 = .ok (.aload_n 0, 1) := by decide +kernel
theorem dL_law_719 : decode cL_law 719 = .ok (.iload_n 3, 1) := by decide +kernel
theorem dL_law_720 : decode cL_law 720 = .ok (.iconst 2, 1) := by decide +kernel
theorem dL_law_721 : decode cL_law 721 = .ok (.iadd, 1) := by decide +kernel
theorem dL_law_722 : decode cL_law 722 = .ok (.iaload, 1) := by decide +kernel
theorem dL_law_723 : decode cL_law 723 = .ok (.invokevirtual 83, 3) := by decide +kernel
theorem dL_law_726 : decode cL_law 726 = .ok (.if_icmp .eq 734, 3) := by decide +kernel
theorem dL_law_729 : decode cL_law 729 = .ok (.iconst 0, 1) := by decide +kernel
theorem dL_law_730 : decode cL_law 730 = .ok (.ireturn, 1) := by decide +kernel
theorem dL_law_731 : decode cL_law 731 = .ok (.aload_n 1, 1) := by decide +kernel
theorem dL_law_732 : decode cL_law 732 = .ok (.aload_n 0, 1) := by decide +kernel
theorem dL_law_733 : decode cL_law 733 = .ok (.iload_n 3, 1) := by decide +kernel
theorem dL_law_734 : decode cL_law 734 = .ok (.iconst 1, 1) := by decide +kernel
theorem dL_law_735 : decode cL_law 735 = .ok (.iadd, 1) := by decide +kernel
theorem dL_law_736 : decode cL_law 736 = .ok (.iaload, 1) := by decide +kernel
theorem dL_law_737 : decode cL_law 737 = .ok (.invokevirtual 84, 3) := by decide +kernel
theorem dL_law_740 : decode cL_law 740 = .ok (.aload_n 2, 1) := by decide +kernel
theorem dL_law_741 : decode cL_law 741 = .ok (.aload_n 0, 1) := by decide +kernel
theorem dL_law_742 : decode cL_law 742 = .ok (.iload_n 3, 1) := by decide +kernel
theorem dL_law_743 : decode cL_law 743 = .ok (.iconst 1, 1) := by decide +kernel
theorem dL_law_744 : decode cL_law 744 = .ok (.iadd, 1) := by decide +kernel
theorem dL_law_745 : decode cL_law 745 = .ok (.iaload, 1) := by decide +kernel
theorem dL_law_746 : decode cL_law 746 = .ok (.invokevirtual 87, 3) := by decide +kernel
theorem dL_law_749 : decode cL_law 749 = .ok (.if_icmp .eq 711, 3) := by decide +kernel
theorem dL_law_752 : decode cL_law 752 = .ok (.iconst 0, 1) := by decide +kernel
theorem dL_law_753 : decode cL_law 753 = .ok (.ireturn, 1) := by decide +kernel
theorem dL_law_754 : decode cL_law 754 = .ok (.aload_n 1, 1) := by decide +kernel
theorem dL_law_755 : decode cL_law 755 = .ok (.aload_n 0, 1) := by decide +kernel
theorem dL_law_756 : decode cL_law 756 = .ok (.iload_n 3, 1) := by decide +kernel
theorem dL_law_757 : decode cL_law 757 = .ok (.iconst 1, 1) := by decide +kernel
theorem dL_law_758 : decode cL_law 758 = .ok (.iadd, 1) := by decide +kernel
theorem dL_law_759 : decode cL_law 759 = .ok (.iaload, 1) := by decide +kernel
theorem dL_law_760 : decode cL_law 760 = .ok (.aload_n 0, 1) := by decide +kernel
theorem dL_law_761 : decode cL_law 761 = .ok (.iload_n 3, 1) := by decide +kernel
theorem dL_law_762 : decode cL_law 762 = .ok (.iconst 2, 1) := by decide +kernel
theorem dL_law_763 : decode cL_law 763 = .ok (.iadd, 1) := by decide +kernel
theorem dL_law_764 : decode cL_law 764 = .ok (.iaload, 1) := by decide +kernel
theorem dL_law_765 : decode cL_law 765 = .ok (.invokevirtual 88, 3) := by decide +kernel
theorem dL_law_768 : decode cL_law 768 = .ok (.aload_n 2, 1) := by decide +kernel
theorem dL_law_769 : decode cL_law 769 = .ok (.aload_n 0, 1) := by decide +kernel
theorem dL_law_770 : decode cL_law 770 = .ok (.iload_n 3, 1) := by decide +kernel
theorem dL_law_771 : decode cL_law 771 = .ok (.iconst 1, 1) := by decide +kernel
theorem dL_law_772 : decode cL_law 772 = .ok (.iadd, 1) := by decide +kernel
theorem dL_law_773 : decode cL_law 773 = .ok (.iaload, 1) := by decide +kernel
theorem dL_law_774 : decode cL_law 774 = .ok (.aload_n 0, 1) := by decide +kernel
theorem dL_law_775 : decode cL_law 775 = .ok (.iload_n 3, 1) := by decide +kernel
theorem dL_law_776 : decode cL_law 776 = .ok (.iconst 2, 1) := by decide +kernel
theorem dL_law_777 : decode cL_law 777 = .ok (.iadd, 1) := by decide +kernel
theorem dL_law_778 : decode cL_law 778 = .ok (.iaload, 1) := by decide +kernel
theorem dL_law_779 : decode cL_law 779 = .ok (.invokevirtual 91, 3) := by decide +kernel
theorem dL_law_782 : decode cL_law 782 = .ok (.if_icmp .eq 678, 3) := by decide +kernel
theorem dL_law_785 : decode cL_law 785 = .ok (.iconst 0, 1) := by decide +kernel
theorem dL_law_786 : decode cL_law 786 = .ok (.ireturn, 1) := by decide +kernel
theorem dL_law_787 : decode cL_law 787 = .ok (.aload_n 1, 1) := by decide +kernel
theorem dL_law_788 : decode cL_law 788 = .ok (.aload_n 0, 1) := by decide +kernel
theorem dL_law_789 : decode cL_law 789 = .ok (.iload_n 3, 1) := by decide +kernel
theorem dL_law_790 : decode cL_law 790 = .ok (.iconst 1, 1) := by decide +kernel
theorem dL_law_791 : decode cL_law 791 = .ok (.iadd, 1) := by decide +kernel
theorem dL_law_792 : decode cL_law 792 = .ok (.iaload, 1) := by decide +kernel
theorem dL_law_793 : decode cL_law 793 = .ok (.aload_n 0, 1) := by decide +kernel
theorem dL_law_794 : decode cL_law 794 = .ok (.iload_n 3, 1) := by decide +kernel
theorem dL_law_795 : decode cL_law 795 = .ok (.iconst 2, 1) := by decide +kernel
theorem dL_law_796 : decode cL_law 796 = .ok (.iadd, 1) := by decide +kernel
theorem dL_law_797 : decode cL_law 797 = .ok (.iaload, 1) := by decide +kernel
theorem dL_law_798 : decode cL_law 798 = .ok (.invokevirtual 92, 3) := by decide +kernel
theorem dL_law_801 : decode cL_law 801 = .ok (.aload_n 2, 1) := by decide +kernel
theorem dL_law_802 : decode cL_law 802 = .ok (.aload_n 0, 1) := by decide +kernel
theorem dL_law_803 : decode cL_law 803 = .ok (.iload_n 3, 1) := by decide +kernel
theorem dL_law_804 : decode cL_law 804 = .ok (.iconst 1, 1) := by decide +kernel
theorem dL_law_805 : decode cL_law 805 = .ok (.iadd, 1) := by decide +kernel
theorem dL_law_806 : decode cL_law 806 = .ok (.iaload, 1) := by decide +kernel
theorem dL_law_807 : decode cL_law 807 = .ok (.aload_n 0, 1) := by decide +kernel
theorem dL_law_808 : decode cL_law 808 = .ok (.iload_n 3, 1) := by decide +kernel
theorem dL_law_809 : decode cL_law 809 = .ok (.iconst 2, 1) := by decide +kernel
theorem dL_law_810 : decode cL_law 810 = .ok (.iadd, 1) := by decide +kernel
theorem dL_law_811 : decode cL_law 811 = .ok (.iaload, 1) := by decide +kernel
theorem dL_law_812 : decode cL_law 812 = .ok (.invokevirtual 95, 3) := by decide +kernel
theorem dL_law_815 : decode cL_law 815 = .ok (.if_icmp .eq 645, 3) := by decide +kernel
theorem dL_law_818 : decode cL_law 818 = .ok (.iconst 0, 1) := by decide +kernel
theorem dL_law_819 : decode cL_law 819 = .ok (.ireturn, 1) := by decide +kernel
theorem dL_law_820 : decode cL_law 820 = .ok (.aload_n 1, 1) := by decide +kernel
theorem dL_law_821 : decode cL_law 821 = .ok (.aload_n 0, 1) := by decide +kernel
theorem dL_law_822 : decode cL_law 822 = .ok (.iload_n 3, 1) := by decide +kernel
theorem dL_law_823 : decode cL_law 823 = .ok (.iconst 1, 1) := by decide +kernel
theorem dL_law_824 : decode cL_law 824 = .ok (.iadd, 1) := by decide +kernel
theorem dL_law_825 : decode cL_law 825 = .ok (.iaload, 1) := by decide +kernel
theorem dL_law_826 : decode cL_law 826 = .ok (.invokevirtual 96, 3) := by decide +kernel
theorem dL_law_829 : decode cL_law 829 = .ok (.aload_n 2, 1) := by decide +kernel
theorem dL_law_830 : decode cL_law 830 = .ok (.aload_n 0, 1) := by decide +kernel
theorem dL_law_831 : decode cL_law 831 = .ok (.iload_n 3, 1) := by decide +kernel
theorem dL_law_832 : decode cL_law 832 = .ok (.iconst 1, 1) := by decide +kernel
theorem dL_law_833 : decode cL_law 833 = .ok (.iadd, 1) := by decide +kernel
theorem dL_law_834 : decode cL_law 834 = .ok (.iaload, 1) := by decide +kernel
theorem dL_law_835 : decode cL_law 835 = .ok (.invokevirtual 99, 3) := by decide +kernel
theorem dL_law_838 : decode cL_law 838 = .ok (.if_icmp .eq 622, 3) := by decide +kernel
theorem dL_law_841 : decode cL_law 841 = .ok (.iconst 0, 1) := by decide +kernel
theorem dL_law_842 : decode cL_law 842 = .ok (.ireturn, 1) := by decide +kernel
theorem dL_law_843 : decode cL_law 843 = .ok (.aload_n 1, 1) := by decide +kernel
end
section
theorem dL_law_844 : decode cL_law 844 = .ok (.aload_n 0, 1) := by decide +kernel
theorem dL_law_845 : decode cL_law 845 = .ok (.iload_n 3, 1) := by decide +kernel
theorem dL_law_846 : decode cL_law 846 = .ok (.iconst 1, 1) := by decide +kernel
theorem dL_law_847 : decode cL_law 847 = .ok (.iadd, 1) := by decide +kernel
theorem dL_law_848 : decode cL_law 848 = .ok (.iaload, 1) := by decide +kernel
theorem dL_law_849 : decode cL_law 849 = .ok (.invokevirtual 100, 3) := by decide +kernel
theorem dL_law_852 : decode cL_law 852 = .ok (.aload_n 2, 1) := by decide +kernel
theorem dL_law_853 : decode cL_law 853 = .ok (.aload_n 0, 1) := by decide +kernel
theorem dL_law_854 : decode cL_law 854 = .ok (.iload_n 3, 1) := by decide +kernel
theorem dL_law_855 : decode cL_law 855 = .ok (.iconst 1, 1) := by decide +kernel
theorem dL_law_856 : decode cL_law 856 = .ok (.iadd, 1) := by decide +kernel
theorem dL_law_857 : decode cL_law 857 = .ok (.iaload, 1) := by decide +kernel
theorem dL_law_858 : decode cL_law 858 = .ok (.invokevirtual 103, 3) := by decide +kernel
theorem dL_law_861 : decode cL_law 861 = .ok (.if_icmp .eq 599, 3) := by decide +kernel
theorem dL_law_864 : decode cL_law 864 = .ok (.iconst 0, 1) := by decide +kernel
theorem dL_law_865 : decode cL_law 865 = .ok (.ireturn, 1) := by decide +kernel
theorem dL_law_866 : decode cL_law 866 = .ok (.aload_n 1, 1) := by decide +kernel
theorem dL_law_867 : decode cL_law 867 = .ok (.aload_n 0, 1) := by decide +kernel
theorem dL_law_868 : decode cL_law 868 = .ok (.iload_n 3, 1) := by decide +kernel
theorem dL_law_869 : decode cL_law 869 = .ok (.iconst 1, 1) := by decide +kernel
theorem dL_law_870 : decode cL_law 870 = .ok (.iadd, 1) := by decide +kernel
theorem dL_law_871 : decode cL_law 871 = .ok (.iaload, 1) := by decide +kernel
theorem dL_law_872 : decode cL_law 872 = .ok (.aload_n 0, 1) := by decide +kernel
theorem dL_law_873 : decode cL_law 873 = .ok (.iload_n 3, 1) := by decide +kernel
theorem dL_law_874 : decode cL_law 874 = .ok (.iconst 2, 1) := by decide +kernel
theorem dL_law_875 : decode cL_law 875 = .ok (.iadd, 1) := by decide +kernel
theorem dL_law_876 : decode cL_law 876 = .ok (.iaload, 1) := by decide +kernel
theorem dL_law_877 : decode cL_law 877 = .ok (.invokevirtual 104, 3) := by decide +kernel
theorem dL_law_880 : decode cL_law 880 = .ok (.aload_n 2, 1) := by decide +kernel
theorem dL_law_881 : decode cL_law 881 = .ok (.aload_n 0, 1) := by decide +kernel
theorem dL_law_882 : decode cL_law 882 = .ok (.iload_n 3, 1) := by decide +kernel
theorem dL_law_883 : decode cL_law 883 = .ok (.iconst 1, 1) := by decide +kernel
theorem dL_law_884 : decode cL_law 884 = .ok (.iadd, 1) := by decide +kernel
theorem dL_law_885 : decode cL_law 885 = .ok (.iaload, 1) := by decide +kernel
theorem dL_law_886 : decode cL_law 886 = .ok (.aload_n 0, 1) := by decide +kernel
theorem dL_law_887 : decode cL_law 887 = .ok (.iload_n 3, 1) := by decide +kernel
theorem dL_law_888 : decode cL_law 888 = .ok (.iconst 2, 1) := by decide +kernel
theorem dL_law_889 : decode cL_law 889 = .ok (.iadd, 1) := by decide +kernel
theorem dL_law_890 : decode cL_law 890 = .ok (.iaload, 1) := by decide +kernel
theorem dL_law_891 : decode cL_law 891 = .ok (.invokevirtual 107, 3) := by decide +kernel
theorem dL_law_894 : decode cL_law 894 = .ok (.if_icmp .eq 566, 3) := by decide +kernel
theorem dL_law_897 : decode cL_law 897 = .ok (.iconst 0, 1) := by decide +kernel
theorem dL_law_898 : decode cL_law 898 = .ok (.ireturn, 1) := by decide +kernel
theorem dL_law_899 : decode cL_law 899 = .ok (.aload_n 1, 1) := by decide +kernel
theorem dL_law_900 : decode cL_law 900 = .ok (.aload_n 0, 1) := by decide +kernel
theorem dL_law_901 : decode cL_law 901 = .ok (.iload_n 3, 1) := by decide +kernel
theorem dL_law_902 : decode cL_law 902 = .ok (.iconst 1, 1) := by decide +kernel
theorem dL_law_903 : decode cL_law 903 = .ok (.iadd, 1) := by decide +kernel
theorem dL_law_904 : decode cL_law 904 = .ok (.iaload, 1) := by decide +kernel
theorem dL_law_905 : decode cL_law 905 = .ok (.aload_n 0, 1) := by decide +kernel
theorem dL_law_906 : decode cL_law 906 = .ok (.iload_n 3, 1) := by decide +kernel
theorem dL_law_907 : decode cL_law 907 = .ok (.iconst 2, 1) := by decide +kernel
theorem dL_law_908 : decode cL_law 908 = .ok (.iadd, 1) := by decide +kernel
theorem dL_law_909 : decode cL_law 909 = .ok (.iaload, 1) := by decide +kernel
theorem dL_law_910 : decode cL_law 910 = .ok (.invokevirtual 108, 3) := by decide +kernel
theorem dL_law_913 : decode cL_law 913 = .ok (.aload_n 2, 1) := by decide +kernel
theorem dL_law_914 : decode cL_law 914 = .ok (.aload_n 0, 1) := by decide +kernel
theorem dL_law_915 : decode cL_law 915 = .ok (.iload_n 3, 1) := by decide +kernel
theorem dL_law_916 : decode cL_law 916 = .ok (.iconst 1, 1) := by decide +kernel
theorem dL_law_917 : decode cL_law 917 = .ok (.iadd, 1) := by decide +kernel
theorem dL_law_918 : decode cL_law 918 = .ok (.iaload, 1) := by decide +kernel
theorem dL_law_919 : decode cL_law 919 = .ok (.aload_n 0, 1) := by decide +kernel
theorem dL_law_920 : decode cL_law 920 = .ok (.iload_n 3, 1) := by decide +kernel
theorem dL_law_921 : decode cL_law 921 = .ok (.iconst 2, 1) := by decide +kernel
theorem dL_law_922 : decode cL_law 922 = .ok (.iadd, 1) := by decide +kernel
theorem dL_law_923 : decode cL_law 923 = .ok (.iaload, 1) := by decide +kernel
theorem dL_law_924 : decode cL_law 924 = .ok (.invokevirtual 111, 3) := by decide +kernel
theorem dL_law_927 : decode cL_law 927 = .ok (.if_icmp .eq 533, 3) := by decide +kernel
theorem dL_law_930 : decode cL_law 930 = .ok (.iconst 0, 1) := by decide +kernel
theorem dL_law_931 : decode cL_law 931 = .ok (.ireturn, 1) := by decide +kernel
theorem dL_law_932 : decode cL_law 932 = .ok (.aload_n 1, 1) := by decide +kernel
theorem dL_law_933 : decode cL_law 933 = .ok (.aload_n 0, 1) := by decide +kernel
theorem dL_law_934 : decode cL_law 934 = .ok (.iload_n 3, 1) := by decide +kernel
theorem dL_law_935 : decode cL_law 935 = .ok (.iconst 1, 1) := by decide +kernel
theorem dL_law_936 : decode cL_law 936 = .ok (.iadd, 1) := by decide +kernel
theorem dL_law_937 : decode cL_law 937 = .ok (.iaload, 1) := by decide +kernel
theorem dL_law_938 : decode cL_law 938 = .ok (.aload_n 0, 1) := by decide +kernel
theorem dL_law_939 : decode cL_law 939 = .ok (.iload_n 3, 1) := by decide +kernel
theorem dL_law_940 : decode cL_law 940 = .ok (.iconst 2, 1) := by decide +kernel
theorem dL_law_941 : decode cL_law 941 = .ok (.iadd, 1) := by decide +kernel
theorem dL_law_942 : decode cL_law 942 = .ok (.iaload, 1) := by decide +kernel
theorem dL_law_943 : decode cL_law 943 = .ok (.invokevirtual 112, 3) := by decide +kernel
theorem dL_law_946 : decode cL_law 946 = .ok (.aload_n 2, 1) := by decide +kernel
theorem dL_law_947 : decode cL_law 947 = .ok (.aload_n 0, 1) := by decide +kernel
theorem dL_law_948 : decode cL_law 948 = .ok (.iload_n 3, 1) := by decide +kernel
theorem dL_law_949 : decode cL_law 949 = .ok (.iconst 1, 1) := by decide +kernel
theorem dL_law_950 : decode cL_law 950 = .ok (.iadd, 1) := by decide +kernel
theorem dL_law_951 : decode cL_law 951 = .ok (.iaload, 1) := by decide +kernel
theorem dL_law_952 : decode cL_law 952 = .ok (.aload_n 0, 1) := by decide +kernel
theorem dL_law_953 : decode cL_law 953 = .ok (.iload_n 3, 1) := by decide +kernel
theorem dL_law_954 : decode cL_law 954 = .ok (.iconst 2, 1) := by decide +kernel
theorem dL_law_955 : decode cL_law 955 = .ok (.iadd, 1) := by decide +kernel
theorem dL_law_956 : decode cL_law 956 = .ok (.iaload, 1) := by decide +kernel
theorem dL_law_957 : decode cL_law 957 = .ok (.invokevirtual 115, 3) := by decide +kernel
theorem dL_law_960 : decode cL_law 960 = .ok (.if_icmp .eq 500, 3) := by decide +kernel
theorem dL_law_963 : decode cL_law 963 = .ok (.iconst 0, 1) := by decide +kernel
theorem dL_law_964 : decode cL_law 964 = .ok (.ireturn, 1) := by decide +kernel
theorem dL_law_965 : decode cL_law 965 = .ok (.aload_n 1, 1) := by decide +kernel
theorem dL_law_966 : decode cL_law 966 = .ok (.aload_n 0, 1) := by decide +kernel
theorem dL_law_967 : decode cL_law 967 = .ok (.iload_n 3, 1) := by decide +kernel
theorem dL_law_968 : decode cL_law 968 = .ok (.iconst 1, 1) := by decide +kernel
theorem dL_law_969 : decode cL_law 969 = .ok (.iadd, 1) := by decide +kernel
theorem dL_law_970 : decode cL_law 970 = .ok (.iaload, 1) := by decide +kernel
theorem dL_law_971 : decode cL_law 971 = .ok (.invokevirtual 116, 3) := by decide +kernel
theorem dL_law_974 : decode cL_law 974 = .ok (.aload_n 2, 1) := by decide +kernel
theorem dL_law_975 : decode cL_law 975 = .ok (.aload_n 0, 1) := by decide +kernel
theorem dL_law_976 : decode cL_law 976 = .ok (.iload_n 3, 1) := by decide +kernel
theorem dL_law_977 : decode cL_law 977 = .ok (.iconst 1, 1) := by decide +kernel
theorem dL_law_978 : decode cL_law 978 = .ok (.iadd, 1) := by decide +kernel
theorem dL_law_979 : decode cL_law 979 = .ok (.iaload, 1) := by decide +kernel
theorem dL_law_980 : decode cL_law 980 = .ok (.invokevirtual 119, 3) := by decide +kernel
theorem dL_law_983 : decode cL_law 983 = .ok (.if_icmp .eq 477, 3) := by decide +kernel
theorem dL_law_986 : decode cL_law 986 = .ok (.iconst 0, 1) := by decide +kernel
theorem dL_law_987 : decode cL_law 987 = .ok (.ireturn, 1) := by decide +kernel
theorem dL_law_988 : decode cL_law 988 = .ok (.aload_n 1, 1) := by decide +kernel
theorem dL_law_989 : decode cL_law 989 = .ok (.aload_n 0, 1) := by decide +kernel
theorem dL_law_990 : decode cL_law 990 = .ok (.iload_n 3, 1) := by decide +kernel
theorem dL_law_991 : decode cL_law 991 = .ok (.iconst 1, 1) := by decide +kernel
theorem dL_law_992 : decode cL_law 992 = .ok (.iadd, 1) := by decide +kernel
theorem dL_law_993 : decode cL_law 993 = .ok (.iaload, 1) := by decide +kernel
theorem dL_law_994 : decode cL_law 994 = .ok (.aload_n 0, 1) := by decide +kernel
theorem dL_law_995 : decode cL_law 995 = .ok (.iload_n 3, 1) := by decide +kernel
theorem dL_law_996 : decode cL_law 996 = .ok (.iconst 2, 1) := by decide +kernel
theorem dL_law_997 : decode cL_law 997 = .ok (.iadd, 1) := by decide +kernel
theorem dL_law_998 : decode cL_law 998 = .ok (.iaload, 1) := by decide +kernel
theorem dL_law_999 : decode cL_law 999 = .ok (.aload_n 0, 1) := by decide +kernel
theorem dL_law_1000 : decode cL_law 1000 = .ok (.iload_n 3, 1) := by decide +kernel
theorem dL_law_1001 : decode cL_law 1001 = .ok (.iconst 3, 1) := by decide +kernel
theorem dL_law_1002 : decode cL_law 1002 = .ok (.iadd, 1) := by decide +kernel
theorem dL_law_1003 : decode cL_law 1003 = .ok (.iaload, 1) := by decide +kernel
theorem dL_law_1004 : decode cL_law 1004 = .ok (.invokevirtual 120, 3) := by decide +kernel
theorem dL_law_1007 : decode cL_law 1007 = .ok (.aload_n 2, 1) := by decide +kernel
theorem dL_law_1008 : decode cL_law 1008 = .ok (.aload_n 0, 1) := by decide +kernel
theorem dL_law_1009 : decode cL_law 1009 = .ok (.iload_n 3, 1) := by decide +kernel
theorem dL_law_1010 : decode cL_law 1010 = .ok (.iconst 1, 1) := by decide +kernel
theorem dL_law_1011 : decode cL_law 1011 = .ok (.iadd, 1) := by decide +kernel
theorem dL_law_1012 : decode cL_law 1012 = .ok (.iaload, 1) := by decide +kernel
theorem dL_law_1013 : decode cL_law 1013 = .ok (.aload_n 0, 1) := by decide +kernel
theorem dL_law_1014 : decode cL_law 1014 = .ok (.iload_n 3, 1) := by decide +kernel
theorem dL_law_1015 : decode cL_law 1015 = .ok (.iconst 2, 1) := by decide +kernel
theorem dL_law_1016 : decode cL_law 1016 = .ok (.iadd, 1) := by decide +kernel
theorem dL_law_1017 : decode cL_law 1017 = .ok (.iaload, 1) := by decide +kernel
theorem dL_law_1018 : decode cL_law 1018 = .ok (.aload_n 0, 1) := by decide +kernel
theorem dL_law_1019 : decode cL_law 1019 = .ok (.iload_n 3, 1) := by decide +kernel
theorem dL_law_1020 : decode cL_law 1020 = .ok (.iconst 3, 1) := by decide +kernel
theorem dL_law_1021 : decode cL_law 1021 = .ok (.iadd, 1) := by decide +kernel
theorem dL_law_1022 : decode cL_law 1022 = .ok (.iaload, 1) := by decide +kernel
theorem dL_law_1023 : decode cL_law 1023 = .ok (.invokevirtual 124, 3) := by decide +kernel
theorem dL_law_1026 : decode cL_law 1026 = .ok (.lcmp, 1) := by decide +kernel
theorem dL_law_1027 : decode cL_law 1027 = .ok (.ifCond .eq 433, 3) := by decide +kernel
theorem dL_law_1030 : decode cL_law 1030 = .ok (.iconst 0, 1) := by decide +kernel
theorem dL_law_1031 : decode cL_law 1031 = .ok (.ireturn, 1) := by decide +kernel
theorem dL_law_1032 : decode cL_law 1032 = .ok (.aload_n 1, 1) := by decide +kernel
theorem dL_law_1033 : decode cL_law 1033 = .ok (.aload_n 0, 1) := by decide +kernel
theorem dL_law_1034 : decode cL_law 1034 = .ok (.iload_n 3, 1) := by decide +kernel
theorem dL_law_1035 : decode cL_law 1035 = .ok (.iconst 1, 1) := by decide +kernel
theorem dL_law_1036 : decode cL_law 1036 = .ok (.iadd, 1) := by decide +kernel
theorem dL_law_1037 : decode cL_law 1037 = .ok (.iaload, 1) := by decide +kernel
theorem dL_law_1038 : decode cL_law 1038 = .ok (.invokevirtual 125, 3) := by decide +kernel
theorem dL_law_1041 : decode cL_law 1041 = .ok (.aload_n 2, 1) := by decide +kernel
theorem dL_law_1042 : decode cL_law 1042 = .ok (.aload_n 0, 1) := by decide +kernel
theorem dL_law_1043 : decode cL_law 1043 = .ok (.iload_n 3, 1) := by decide +kernel
theorem dL_law_1044 : decode cL_law 1044 = .ok (.iconst 1, 1) := by decide +kernel
theorem dL_law_1045 : decode cL_law 1045 = .ok (.iadd, 1) := by decide +kernel
theorem dL_law_1046 : decode cL_law 1046 = .ok (.iaload, 1) := by decide +kernel
theorem dL_law_1047 : decode cL_law 1047 = .ok (.invokevirtual 128, 3) := by decide +kernel
theorem dL_law_1050 : decode cL_law 1050 = .ok (.if_icmp .eq 410, 3) := by decide +kernel
theorem dL_law_1053 : decode cL_law 1053 = .ok (.iconst 0, 1) := by decide +kernel
theorem dL_law_1054 : decode cL_law 1054 = .ok (.ireturn, 1) := by decide +kernel
theorem dL_law_1055 : decode cL_law 1055 = .ok (.aload_n 1, 1) := by decide +kernel
theorem dL_law_1056 : decode cL_law 1056 = .ok (.aload_n 0, 1) := by decide +kernel
theorem dL_law_1057 : decode cL_law 1057 = .ok (.iload_n 3, 1) := by decide +kernel
theorem dL_law_1058 : decode cL_law 1058 = .ok (.iconst 1, 1) := by decide +kernel
theorem dL_law_1059 : decode cL_law 1059 = .ok (.iadd, 1) := by decide +kernel
theorem dL_law_1060 : decode cL_law 1060 = .ok (.iaload, 1) := by decide +kernel
theorem dL_law_1061 : decode cL_law 1061 = .ok (.aload_n 0, 1) := by decide +kernel
theorem dL_law_1062 : decode cL_law 1062 = .ok (.iload_n 3, 1) := by decide +kernel
theorem dL_law_1063 : decode cL_law 1063 = .ok (.iconst 2, 1) := by decide +kernel
theorem dL_law_1064 : decode cL_law 1064 = .ok (.iadd, 1) := by decide +kernel
theorem dL_law_1065 : decode cL_law 1065 = .ok (.iaload, 1) := by decide +kernel
theorem dL_law_1066 : decode cL_law 1066 = .ok (.invokevirtual 129, 3) := by decide +kernel
theorem dL_law_1069 : decode cL_law 1069 = .ok (.aload_n 2, 1) := by decide +kernel
theorem dL_law_1070 : decode cL_law 1070 = .ok (.aload_n 0, 1) := by decide +kernel
theorem dL_law_1071 : decode cL_law 1071 = .ok (.iload_n 3, 1) := by decide +kernel
theorem dL_law_1072 : decode cL_law 1072 = .ok (.iconst 1, 1) := by decide +kernel
theorem dL_law_1073 : decode cL_law 1073 = .ok (.iadd, 1) := by decide +kernel
theorem dL_law_1074 : decode cL_law 1074 = .ok (.iaload, 1) := by decide +kernel
theorem dL_law_1075 : decode cL_law 1075 = .ok (.aload_n 0, 1) := by decide +kernel
theorem dL_law_1076 : decode cL_law 1076 = .ok (.iload_n 3, 1) := by decide +kernel
theorem dL_law_1077 : decode cL_law 1077 = .ok (.iconst 2, 1) := by decide +kernel
theorem dL_law_1078 : decode cL_law 1078 = .ok (.iadd, 1) := by decide +kernel
theorem dL_law_1079 : decode cL_law 1079 = .ok (.iaload, 1) := by decide +kernel
theorem dL_law_1080 : decode cL_law 1080 = .ok (.invokevirtual 132, 3) := by decide +kernel
theorem dL_law_1083 : decode cL_law 1083 = .ok (.if_icmp .eq 377, 3) := by decide +kernel
theorem dL_law_1086 : decode cL_law 1086 = .ok (.iconst 0, 1) := by decide +kernel
theorem dL_law_1087 : decode cL_law 1087 = .ok (.ireturn, 1) := by decide +kernel
theorem dL_law_1088 : decode cL_law 1088 = .ok (.aload_n 1, 1) := by decide +kernel
theorem dL_law_1089 : decode cL_law 1089 = .ok (.invokevirtual 133, 3) := by decide +kernel
theorem dL_law_1092 : decode cL_law 1092 = .ok (.aload_n 2, 1) := by decide +kernel
theorem dL_law_1093 : decode cL_law 1093 = .ok (.invokevirtual 137, 3) := by decide +kernel
theorem dL_law_1096 : decode cL_law 1096 = .ok (.if_icmp .eq 364, 3) := by decide +kernel
theorem dL_law_1099 : decode cL_law 1099 = .ok (.iconst 0, 1) := by decide +kernel
theorem dL_law_1100 : decode cL_law 1100 = .ok (.ireturn, 1) := by decide +kernel
theorem dL_law_1101 : decode cL_law 1101 = .ok (.aload_n 1, 1) := by decide +kernel
theorem dL_law_1102 : decode cL_law 1102 = .ok (.invokevirtual 138, 3) := by decide +kernel
theorem dL_law_1105 : decode cL_law 1105 = .ok (.aload_n 2, 1) := by decide +kernel
theorem dL_law_1106 : decode cL_law 1106 = .ok (.invokevirtual 141, 3) := by decide +kernel
theorem dL_law_1109 : decode cL_law 1109 = .ok (.if_icmp .eq 351, 3) := by decide +kernel
theorem dL_law_1112 : decode cL_law 1112 = .ok (.iconst 0, 1) := by decide +kernel
theorem dL_law_1113 : decode cL_law 1113 = .ok (.ireturn, 1) := by decide +kernel
theorem dL_law_1114 : decode cL_law 1114 = .ok (.aload_n 1, 1) := by decide +kernel
theorem dL_law_1115 : decode cL_law 1115 = .ok (.aload_n 0, 1) := by decide +kernel
theorem dL_law_1116 : decode cL_law 1116 = .ok (.iload_n 3, 1) := by decide +kernel
theorem dL_law_1117 : decode cL_law 1117 = .ok (.iconst 1, 1) := by decide +kernel
theorem dL_law_1118 : decode cL_law 1118 = .ok (.iadd, 1) := by decide +kernel
theorem dL_law_1119 : decode cL_law 1119 = .ok (.iaload, 1) := by decide +kernel
theorem dL_law_1120 : decode cL_law 1120 = .ok (.aload_n 0, 1) := by decide +kernel
theorem dL_law_1121 : decode cL_law 1121 = .ok (.iload_n 3, 1) := by decide +kernel
theorem dL_law_1122 : decode cL_law 1122 = .ok (.iconst 2, 1) := by decide +kernel
theorem dL_law_1123 : decode cL_law 1123 = .ok (.iadd, 1) := by decide +kernel
theorem dL_law_1124 : decode cL_law 1124 = .ok (.iaload, 1) := by decide +kernel
theorem dL_law_1125 : decode cL_law 1125 = .ok (.invokevirtual 142, 3) := by decide +kernel
theorem dL_law_1128 : decode cL_law 1128 = .ok (.aload_n 2, 1) := by decide +kernel
theorem dL_law_1129 : decode cL_law 1129 = .ok (.aload_n 0, 1) := by decide +kernel
theorem dL_law_1130 : decode cL_law 1130 = .ok (.iload_n 3, 1) := by decide +kernel
theorem dL_law_1131 : decode cL_law 1131 = .ok (.iconst 1, 1) := by decide +kernel
theorem dL_law_1132 : decode cL_law 1132 = .ok (.iadd, 1) := by decide +kernel
theorem dL_law_1133 : decode cL_law 1133 = .ok (.iaload, 1) := by decide +kernel
theorem dL_law_1134 : decode cL_law 1134 = .ok (.aload_n 0, 1) := by decide +kernel
theorem dL_law_1135 : decode cL_law 1135 = .ok (.iload_n 3, 1) := by decide +kernel
theorem dL_law_1136 : decode cL_law 1136 = .ok (.iconst 2, 1) := by decide +kernel
theorem dL_law_1137 : decode cL_law 1137 = .ok (.iadd, 1) := by decide +kernel
theorem dL_law_1138 : decode cL_law 1138 = .ok (.iaload, 1) := by decide +kernel
theorem dL_law_1139 : decode cL_law 1139 = .ok (.invokevirtual 145, 3) := by decide +kernel
theorem dL_law_1142 : decode cL_law 1142 = .ok (.if_icmp .eq 318, 3) := by decide +kernel
theorem dL_law_1145 : decode cL_law 1145 = .ok (.iconst 0, 1) := by decide +kernel
theorem dL_law_1146 : decode cL_law 1146 = .ok (.ireturn, 1) := by decide +kernel
theorem dL_law_1147 : decode cL_law 1147 = .ok (.aload_n 1, 1) := by decide +kernel
theorem dL_law_1148 : decode cL_law 1148 = .ok (.aload_n 0, 1) := by decide +kernel
theorem dL_law_1149 : decode cL_law 1149 = .ok (.iload_n 3, 1) := by decide +kernel
theorem dL_law_1150 : decode cL_law 1150 = .ok (.iconst 1, 1) := by decide +kernel
theorem dL_law_1151 : decode cL_law 1151 = .ok (.iadd, 1) := by decide +kernel
theorem dL_law_1152 : decode cL_law 1152 = .ok (.iaload, 1) := by decide +kernel
theorem dL_law_1153 : decode cL_law 1153 = .ok (.aload_n 0, 1) := by decide +kernel
theorem dL_law_1154 : decode cL_law 1154 = .ok (.iload_n 3, 1) := by decide +kernel
theorem dL_law_1155 : decode cL_law 1155 = .ok (.iconst 2, 1) := by decide +kernel
theorem dL_law_1156 : decode cL_law 1156 = .ok (.iadd, 1) := by decide +kernel
theorem dL_law_1157 : decode cL_law 1157 = .ok (.iaload, 1) := by decide +kernel
theorem dL_law_1158 : decode cL_law 1158 = .ok (.invokevirtual 146, 3) := by decide +kernel
theorem dL_law_1161 : decode cL_law 1161 = .ok (.aload_n 2, 1) := by decide +kernel
theorem dL_law_1162 : decode cL_law 1162 = .ok (.aload_n 0, 1) := by decide +kernel
theorem dL_law_1163 : decode cL_law 1163 = .ok (.iload_n 3, 1) := by decide +kernel
theorem dL_law_1164 : decode cL_law 1164 = .ok (.iconst 1, 1) := by decide +kernel
theorem dL_law_1165 : decode cL_law 1165 = .ok (.iadd, 1) := by decide +kernel
theorem dL_law_1166 : decode cL_law 1166 = .ok (.iaload, 1) := by decide +kernel
theorem dL_law_1167 : decode cL_law 1167 = .ok (.aload_n 0, 1) := by decide +kernel
theorem dL_law_1168 : decode cL_law 1168 = .ok (.iload_n 3, 1) := by decide +kernel
theorem dL_law_1169 : decode cL_law 1169 = .ok (.iconst 2, 1) := by decide +kernel
theorem dL_law_1170 : decode cL_law 1170 = .ok (.iadd, 1) := by decide +kernel
theorem dL_law_1171 : decode cL_law 1171 = .ok (.iaload, 1) := by decide +kernel
end
section
theorem dL_law_1172 : decode cL_law 1172 = .ok (.invokevirtual 149, 3) := by decide +kernel
theorem dL_law_1175 : decode cL_law 1175 = .ok (.if_icmp .eq 285, 3) := by decide +kernel
theorem dL_law_1178 : decode cL_law 1178 = .ok (.iconst 0, 1) := by decide +kernel
theorem dL_law_1179 : decode cL_law 1179 = .ok (.ireturn, 1) := by decide +kernel
theorem dL_law_1180 : decode cL_law 1180 = .ok (.aload_n 1, 1) := by decide +kernel
theorem dL_law_1181 : decode cL_law 1181 = .ok (.aload_n 0, 1) := by decide +kernel
theorem dL_law_1182 : decode cL_law 1182 = .ok (.iload_n 3, 1) := by decide +kernel
theorem dL_law_1183 : decode cL_law 1183 = .ok (.iconst 1, 1) := by decide +kernel
theorem dL_law_1184 : decode cL_law 1184 = .ok (.iadd, 1) := by decide +kernel
theorem dL_law_1185 : decode cL_law 1185 = .ok (.iaload, 1) := by decide +kernel
theorem dL_law_1186 : decode cL_law 1186 = .ok (.aload_n 0, 1) := by decide +kernel
theorem dL_law_1187 : decode cL_law 1187 = .ok (.iload_n 3, 1) := by decide +kernel
theorem dL_law_1188 : decode cL_law 1188 = .ok (.iconst 2, 1) := by decide +kernel
theorem dL_law_1189 : decode cL_law 1189 = .ok (.iadd, 1) := by decide +kernel
theorem dL_law_1190 : decode cL_law 1190 = .ok (.iaload, 1) := by decide +kernel
theorem dL_law_1191 : decode cL_law 1191 = .ok (.aload_n 0, 1) := by decide +kernel
theorem dL_law_1192 : decode cL_law 1192 = .ok (.iload_n 3, 1) := by decide +kernel
theorem dL_law_1193 : decode cL_law 1193 = .ok (.iconst 3, 1) := by decide +kernel
theorem dL_law_1194 : decode cL_law 1194 = .ok (.iadd, 1) := by decide +kernel
theorem dL_law_1195 : decode cL_law 1195 = .ok (.iaload, 1) := by decide +kernel
theorem dL_law_1196 : decode cL_law 1196 = .ok (.invokevirtual 150, 3) := by decide +kernel
theorem dL_law_1199 : decode cL_law 1199 = .ok (.aload_n 2, 1) := by decide +kernel
theorem dL_law_1200 : decode cL_law 1200 = .ok (.aload_n 0, 1) := by decide +kernel
theorem dL_law_1201 : decode cL_law 1201 = .ok (.iload_n 3, 1) := by decide +kernel
theorem dL_law_1202 : decode cL_law 1202 = .ok (.iconst 1, 1) := by decide +kernel
theorem dL_law_1203 : decode cL_law 1203 = .ok (.iadd, 1) := by decide +kernel
theorem dL_law_1204 : decode cL_law 1204 = .ok (.iaload, 1) := by decide +kernel
theorem dL_law_1205 : decode cL_law 1205 = .ok (.aload_n 0, 1) := by decide +kernel
theorem dL_law_1206 : decode cL_law 1206 = .ok (.iload_n 3, 1) := by decide +kernel
theorem dL_law_1207 : decode cL_law 1207 = .ok (.iconst 2, 1) := by decide +kernel
theorem dL_law_1208 : decode cL_law 1208 = .ok (.iadd, 1) := by decide +kernel
theorem dL_law_1209 : decode cL_law 1209 = .ok (.iaload, 1) := by decide +kernel
theorem dL_law_1210 : decode cL_law 1210 = .ok (.aload_n 0, 1) := by decide +kernel
theorem dL_law_1211 : decode cL_law 1211 = .ok (.iload_n 3, 1) := by decide +kernel
theorem dL_law_1212 : decode cL_law 1212 = .ok (.iconst 3, 1) := by decide +kernel
theorem dL_law_1213 : decode cL_law 1213 = .ok (.iadd, 1) := by decide +kernel
theorem dL_law_1214 : decode cL_law 1214 = .ok (.iaload, 1) := by decide +kernel
theorem dL_law_1215 : decode cL_law 1215 = .ok (.invokevirtual 153, 3) := by decide +kernel
theorem dL_law_1218 : decode cL_law 1218 = .ok (.if_icmp .eq 242, 3) := by decide +kernel
theorem dL_law_1221 : decode cL_law 1221 = .ok (.iconst 0, 1) := by decide +kernel
theorem dL_law_1222 : decode cL_law 1222 = .ok (.ireturn, 1) := by decide +kernel
theorem dL_law_1223 : decode cL_law 1223 = .ok (.aload_n 1, 1) := by decide +kernel
theorem dL_law_1224 : decode cL_law 1224 = .ok (.aload_n 0, 1) := by decide +kernel
theorem dL_law_1225 : decode cL_law 1225 = .ok (.iload_n 3, 1) := by decide +kernel
theorem dL_law_1226 : decode cL_law 1226 = .ok (.iconst 1, 1) := by decide +kernel
theorem dL_law_1227 : decode cL_law 1227 = .ok (.iadd, 1) := by decide +kernel
theorem dL_law_1228 : decode cL_law 1228 = .ok (.iaload, 1) := by decide +kernel
theorem dL_law_1229 : decode cL_law 1229 = .ok (.aload_n 0, 1) := by decide +kernel
theorem dL_law_1230 : decode cL_law 1230 = .ok (.iload_n 3, 1) := by decide +kernel
theorem dL_law_1231 : decode cL_law 1231 = .ok (.iconst 2, 1) := by decide +kernel
theorem dL_law_1232 : decode cL_law 1232 = .ok (.iadd, 1) := by decide +kernel
theorem dL_law_1233 : decode cL_law 1233 = .ok (.iaload, 1) := by decide +kernel
theorem dL_law_1234 : decode cL_law 1234 = .ok (.aload_n 0, 1) := by decide +kernel
theorem dL_law_1235 : decode cL_law 1235 = .ok (.iload_n 3, 1) := by decide +kernel
theorem dL_law_1236 : decode cL_law 1236 = .ok (.iconst 3, 1) := by decide +kernel
theorem dL_law_1237 : decode cL_law 1237 = .ok (.iadd, 1) := by decide +kernel
theorem dL_law_1238 : decode cL_law 1238 = .ok (.iaload, 1) := by decide +kernel
theorem dL_law_1239 : decode cL_law 1239 = .ok (.invokevirtual 154, 3) := by decide +kernel
theorem dL_law_1242 : decode cL_law 1242 = .ok (.aload_n 2, 1) := by decide +kernel
theorem dL_law_1243 : decode cL_law 1243 = .ok (.aload_n 0, 1) := by decide +kernel
theorem dL_law_1244 : decode cL_law 1244 = .ok (.iload_n 3, 1) := by decide +kernel
theorem dL_law_1245 : decode cL_law 1245 = .ok (.iconst 1, 1) := by decide +kernel
theorem dL_law_1246 : decode cL_law 1246 = .ok (.iadd, 1) := by decide +kernel
theorem dL_law_1247 : decode cL_law 1247 = .ok (.iaload, 1) := by decide +kernel
theorem dL_law_1248 : decode cL_law 1248 = .ok (.aload_n 0, 1) := by decide +kernel
theorem dL_law_1249 : decode cL_law 1249 = .ok (.iload_n 3, 1) := by decide +kernel
theorem dL_law_1250 : decode cL_law 1250 = .ok (.iconst 2, 1) := by decide +kernel
theorem dL_law_1251 : decode cL_law 1251 = .ok (.iadd, 1) := by decide +kernel
theorem dL_law_1252 : decode cL_law 1252 = .ok (.iaload, 1) := by decide +kernel
theorem dL_law_1253 : decode cL_law 1253 = .ok (.aload_n 0, 1) := by decide +kernel
theorem dL_law_1254 : decode cL_law 1254 = .ok (.iload_n 3, 1) := by decide +kernel
theorem dL_law_1255 : decode cL_law 1255 = .ok (.iconst 3, 1) := by decide +kernel
theorem dL_law_1256 : decode cL_law 1256 = .ok (.iadd, 1) := by decide +kernel
theorem dL_law_1257 : decode cL_law 1257 = .ok (.iaload, 1) := by decide +kernel
theorem dL_law_1258 : decode cL_law 1258 = .ok (.invokevirtual 157, 3) := by decide +kernel
theorem dL_law_1261 : decode cL_law 1261 = .ok (.if_icmp .eq 199, 3) := by decide +kernel
theorem dL_law_1264 : decode cL_law 1264 = .ok (.iconst 0, 1) := by decide +kernel
theorem dL_law_1265 : decode cL_law 1265 = .ok (.ireturn, 1) := by decide +kernel
theorem dL_law_1266 : decode cL_law 1266 = .ok (.aload_n 1, 1) := by decide +kernel
theorem dL_law_1267 : decode cL_law 1267 = .ok (.aload_n 0, 1) := by decide +kernel
theorem dL_law_1268 : decode cL_law 1268 = .ok (.iload_n 3, 1) := by decide +kernel
theorem dL_law_1269 : decode cL_law 1269 = .ok (.iconst 1, 1) := by decide +kernel
theorem dL_law_1270 : decode cL_law 1270 = .ok (.iadd, 1) := by decide +kernel
theorem dL_law_1271 : decode cL_law 1271 = .ok (.iaload, 1) := by decide +kernel
theorem dL_law_1272 : decode cL_law 1272 = .ok (.aload_n 0, 1) := by decide +kernel
theorem dL_law_1273 : decode cL_law 1273 = .ok (.iload_n 3, 1) := by decide +kernel
theorem dL_law_1274 : decode cL_law 1274 = .ok (.iconst 2, 1) := by decide +kernel
theorem dL_law_1275 : decode cL_law 1275 = .ok (.iadd, 1) := by decide +kernel
theorem dL_law_1276 : decode cL_law 1276 = .ok (.iaload, 1) := by decide +kernel
theorem dL_law_1277 : decode cL_law 1277 = .ok (.aload_n 0, 1) := by decide +kernel
theorem dL_law_1278 : decode cL_law 1278 = .ok (.iload_n 3, 1) := by decide +kernel
theorem dL_law_1279 : decode cL_law 1279 = .ok (.iconst 3, 1) := by decide +kernel
theorem dL_law_1280 : decode cL_law 1280 = .ok (.iadd, 1) := by decide +kernel
theorem dL_law_1281 : decode cL_law 1281 = .ok (.iaload, 1) := by decide +kernel
theorem dL_law_1282 : decode cL_law 1282 = .ok (.aload_n 0, 1) := by decide +kernel
theorem dL_law_1283 : decode cL_law 1283 = .ok (.iload_n 3, 1) := by decide +kernel
theorem dL_law_1284 : decode cL_law 1284 = .ok (.iconst 4, 1) := by decide +kernel
theorem dL_law_1285 : decode cL_law 1285 = .ok (.iadd, 1) := by decide +kernel
theorem dL_law_1286 : decode cL_law 1286 = .ok (.iaload, 1) := by decide +kernel
theorem dL_law_1287 : decode cL_law 1287 = .ok (.aload_n 0, 1) := by decide +kernel
theorem dL_law_1288 : decode cL_law 1288 = .ok (.iload_n 3, 1) := by decide +kernel
theorem dL_law_1289 : decode cL_law 1289 = .ok (.iconst 5, 1) := by decide +kernel
theorem dL_law_1290 : decode cL_law 1290 = .ok (.iadd, 1) := by decide +kernel
theorem dL_law_1291 : decode cL_law 1291 = .ok (.iaload, 1) := by decide +kernel
theorem dL_law_1292 : decode cL_law 1292 = .ok (.invokevirtual 158, 3) := by decide +kernel
theorem dL_law_1295 : decode cL_law 1295 = .ok (.aload_n 2, 1) := by decide +kernel
theorem dL_law_1296 : decode cL_law 1296 = .ok (.aload_n 0, 1) := by decide +kernel
theorem dL_law_1297 : decode cL_law 1297 = .ok (.iload_n 3, 1) := by decide +kernel
theorem dL_law_1298 : decode cL_law 1298 = .ok (.iconst 1, 1) := by decide +kernel
theorem dL_law_1299 : decode cL_law 1299 = .ok (.iadd, 1) := by decide +kernel
theorem dL_law_1300 : decode cL_law 1300 = .ok (.iaload, 1) := by decide +kernel
theorem dL_law_1301 : decode cL_law 1301 = .ok (.aload_n 0, 1) := by decide +kernel
theorem dL_law_1302 : decode cL_law 1302 = .ok (.iload_n 3, 1) := by decide +kernel
theorem dL_law_1303 : decode cL_law 1303 = .ok (.iconst 2, 1) := by decide +kernel
theorem dL_law_1304 : decode cL_law 1304 = .ok (.iadd, 1) := by decide +kernel
theorem dL_law_1305 : decode cL_law 1305 = .ok (.iaload, 1) := by decide +kernel
theorem dL_law_1306 : decode cL_law 1306 = .ok (.aload_n 0, 1) := by decide +kernel
theorem dL_law_1307 : decode cL_law 1307 = .ok (.iload_n 3, 1) := by decide +kernel
theorem dL_law_1308 : decode cL_law 1308 = .ok (.iconst 3, 1) := by decide +kernel
theorem dL_law_1309 : decode cL_law 1309 = .ok (.iadd, 1) := by decide +kernel
theorem dL_law_1310 : decode cL_law 1310 = .ok (.iaload, 1) := by decide +kernel
theorem dL_law_1311 : decode cL_law 1311 = .ok (.aload_n 0, 1) := by decide +kernel
theorem dL_law_1312 : decode cL_law 1312 = .ok (.iload_n 3, 1) := by decide +kernel
theorem dL_law_1313 : decode cL_law 1313 = .ok (.iconst 4, 1) := by decide +kernel
theorem dL_law_1314 : decode cL_law 1314 = .ok (.iadd, 1) := by decide +kernel
theorem dL_law_1315 : decode cL_law 1315 = .ok (.iaload, 1) := by decide +kernel
theorem dL_law_1316 : decode cL_law 1316 = .ok (.aload_n 0, 1) := by decide +kernel
theorem dL_law_1317 : decode cL_law 1317 = .ok (.iload_n 3, 1) := by decide +kernel
theorem dL_law_1318 : decode cL_law 1318 = .ok (.iconst 5, 1) := by decide +kernel
theorem dL_law_1319 : decode cL_law 1319 = .ok (.iadd, 1) := by decide +kernel
theorem dL_law_1320 : decode cL_law 1320 = .ok (.iaload, 1) := by decide +kernel
theorem dL_law_1321 : decode cL_law 1321 = .ok (.invokevirtual 162, 3) := by decide +kernel
theorem dL_law_1324 : decode cL_law 1324 = .ok (.if_icmp .eq 136, 3) := by decide +kernel
theorem dL_law_1327 : decode cL_law 1327 = .ok (.iconst 0, 1) := by decide +kernel
theorem dL_law_1328 : decode cL_law 1328 = .ok (.ireturn, 1) := by decide +kernel
theorem dL_law_1329 : decode cL_law 1329 = .ok (.aload_n 1, 1) := by decide +kernel
theorem dL_law_1330 : decode cL_law 1330 = .ok (.aload_n 0, 1) := by decide +kernel
theorem dL_law_1331 : decode cL_law 1331 = .ok (.iload_n 3, 1) := by decide +kernel
theorem dL_law_1332 : decode cL_law 1332 = .ok (.iconst 1, 1) := by decide +kernel
theorem dL_law_1333 : decode cL_law 1333 = .ok (.iadd, 1) := by decide +kernel
theorem dL_law_1334 : decode cL_law 1334 = .ok (.iaload, 1) := by decide +kernel
theorem dL_law_1335 : decode cL_law 1335 = .ok (.invokevirtual 163, 3) := by decide +kernel
theorem dL_law_1338 : decode cL_law 1338 = .ok (.aload_n 2, 1) := by decide +kernel
theorem dL_law_1339 : decode cL_law 1339 = .ok (.aload_n 0, 1) := by decide +kernel
theorem dL_law_1340 : decode cL_law 1340 = .ok (.iload_n 3, 1) := by decide +kernel
theorem dL_law_1341 : decode cL_law 1341 = .ok (.iconst 1, 1) := by decide +kernel
theorem dL_law_1342 : decode cL_law 1342 = .ok (.iadd, 1) := by decide +kernel
theorem dL_law_1343 : decode cL_law 1343 = .ok (.iaload, 1) := by decide +kernel
theorem dL_law_1344 : decode cL_law 1344 = .ok (.invokevirtual 166, 3) := by decide +kernel
theorem dL_law_1347 : decode cL_law 1347 = .ok (.if_icmp .eq 113, 3) := by decide +kernel
theorem dL_law_1350 : decode cL_law 1350 = .ok (.iconst 0, 1) := by decide +kernel
theorem dL_law_1351 : decode cL_law 1351 = .ok (.ireturn, 1) := by decide +kernel
theorem dL_law_1352 : decode cL_law 1352 = .ok (.aload_n 1, 1) := by decide +kernel
theorem dL_law_1353 : decode cL_law 1353 = .ok (.aload_n 0, 1) := by decide +kernel
theorem dL_law_1354 : decode cL_law 1354 = .ok (.iload_n 3, 1) := by decide +kernel
theorem dL_law_1355 : decode cL_law 1355 = .ok (.iconst 1, 1) := by decide +kernel
theorem dL_law_1356 : decode cL_law 1356 = .ok (.iadd, 1) := by decide +kernel
theorem dL_law_1357 : decode cL_law 1357 = .ok (.iaload, 1) := by decide +kernel
theorem dL_law_1358 : decode cL_law 1358 = .ok (.invokevirtual 167, 3) := by decide +kernel
theorem dL_law_1361 : decode cL_law 1361 = .ok (.aload_n 2, 1) := by decide +kernel
theorem dL_law_1362 : decode cL_law 1362 = .ok (.aload_n 0, 1) := by decide +kernel
theorem dL_law_1363 : decode cL_law 1363 = .ok (.iload_n 3, 1) := by decide +kernel
theorem dL_law_1364 : decode cL_law 1364 = .ok (.iconst 1, 1) := by decide +kernel
theorem dL_law_1365 : decode cL_law 1365 = .ok (.iadd, 1) := by decide +kernel
theorem dL_law_1366 : decode cL_law 1366 = .ok (.iaload, 1) := by decide +kernel
theorem dL_law_1367 : decode cL_law 1367 = .ok (.invokevirtual 170, 3) := by decide +kernel
theorem dL_law_1370 : decode cL_law 1370 = .ok (.if_icmp .eq 90, 3) := by decide +kernel
theorem dL_law_1373 : decode cL_law 1373 = .ok (.iconst 0, 1) := by decide +kernel
theorem dL_law_1374 : decode cL_law 1374 = .ok (.ireturn, 1) := by decide +kernel
theorem dL_law_1375 : decode cL_law 1375 = .ok (.aload_n 1, 1) := by decide +kernel
theorem dL_law_1376 : decode cL_law 1376 = .ok (.invokevirtual 171, 3) := by decide +kernel
theorem dL_law_1379 : decode cL_law 1379 = .ok (.aload_n 2, 1) := by decide +kernel
theorem dL_law_1380 : decode cL_law 1380 = .ok (.invokevirtual 174, 3) := by decide +kernel
theorem dL_law_1383 : decode cL_law 1383 = .ok (.if_icmp .eq 77, 3) := by decide +kernel
theorem dL_law_1386 : decode cL_law 1386 = .ok (.iconst 0, 1) := by decide +kernel
theorem dL_law_1387 : decode cL_law 1387 = .ok (.ireturn, 1) := by decide +kernel
theorem dL_law_1388 : decode cL_law 1388 = .ok (.aload_n 1, 1) := by decide +kernel
theorem dL_law_1389 : decode cL_law 1389 = .ok (.invokevirtual 175, 3) := by decide +kernel
theorem dL_law_1392 : decode cL_law 1392 = .ok (.aload_n 2, 1) := by decide +kernel
theorem dL_law_1393 : decode cL_law 1393 = .ok (.invokevirtual 178, 3) := by decide +kernel
theorem dL_law_1396 : decode cL_law 1396 = .ok (.if_icmp .eq 64, 3) := by decide +kernel
theorem dL_law_1399 : decode cL_law 1399 = .ok (.iconst 0, 1) := by decide +kernel
theorem dL_law_1400 : decode cL_law 1400 = .ok (.ireturn, 1) := by decide +kernel
theorem dL_law_1401 : decode cL_law 1401 = .ok (.aload_n 1, 1) := by decide +kernel
theorem dL_law_1402 : decode cL_law 1402 = .ok (.invokevirtual 179, 3) := by decide +kernel
theorem dL_law_1405 : decode cL_law 1405 = .ok (.aload_n 2, 1) := by decide +kernel
theorem dL_law_1406 : decode cL_law 1406 = .ok (.invokevirtual 182, 3) := by decide +kernel
theorem dL_law_1409 : decode cL_law 1409 = .ok (.if_icmp .eq 51, 3) := by decide +kernel
theorem dL_law_1412 : decode cL_law 1412 = .ok (.iconst 0, 1) := by decide +kernel
theorem dL_law_1413 : decode cL_law 1413 = .ok (.ireturn, 1) := by decide +kernel
theorem dL_law_1414 : decode cL_law 1414 = .ok (.aload_n 1, 1) := by decide +kernel
theorem dL_law_1415 : decode cL_law 1415 = .ok (.aload_n 0, 1) := by decide +kernel
theorem dL_law_1416 : decode cL_law 1416 = .ok (.iload_n 3, 1) := by decide +kernel
theorem dL_law_1417 : decode cL_law 1417 = .ok (.iconst 1, 1) := by decide +kernel
theorem dL_law_1418 : decode cL_law 1418 = .ok (.iadd, 1) := by decide +kernel
theorem dL_law_1419 : decode cL_law 1419 = .ok (.iaload, 1) := by decide +kernel
theorem dL_law_1420 : decode cL_law 1420 = .ok (.invokevirtual 183, 3) := by decide +kernel
theorem dL_law_1423 : decode cL_law 1423 = .ok (.aload_n 2, 1) := by decide +kernel
theorem dL_law_1424 : decode cL_law 1424 = .ok (.aload_n 0, 1) := by decide +kernel
theorem dL_law_1425 : decode cL_law 1425 = .ok (.iload_n 3, 1) := by decide +kernel
theorem dL_law_1426 : decode cL_law 1426 = .ok (.iconst 1, 1) := by decide +kernel
theorem dL_law_1427 : decode cL_law 1427 = .ok (.iadd, 1) := by decide +kernel
theorem dL_law_1428 : decode cL_law 1428 = .ok (.iaload, 1) := by decide +kernel
theorem dL_law_1429 : decode cL_law 1429 = .ok (.invokevirtual 186, 3) := by decide +kernel
theorem dL_law_1432 : decode cL_law 1432 = .ok (.if_icmp .eq 28, 3) := by decide +kernel
theorem dL_law_1435 : decode cL_law 1435 = .ok (.iconst 0, 1) := by decide +kernel
theorem dL_law_1436 : decode cL_law 1436 = .ok (.ireturn, 1) := by decide +kernel
theorem dL_law_1437 : decode cL_law 1437 = .ok (.aload_n 1, 1) := by decide +kernel
theorem dL_law_1438 : decode cL_law 1438 = .ok (.aload_n 0, 1) := by decide +kernel
theorem dL_law_1439 : decode cL_law 1439 = .ok (.iload_n 3, 1) := by decide +kernel
theorem dL_law_1440 : decode cL_law 1440 = .ok (.iconst 1, 1) := by decide +kernel
theorem dL_law_1441 : decode cL_law 1441 = .ok (.iadd, 1) := by decide +kernel
theorem dL_law_1442 : decode cL_law 1442 = .ok (.iaload, 1) := by decide +kernel
theorem dL_law_1443 : decode cL_law 1443 = .ok (.invokevirtual 187, 3) := by decide +kernel
theorem dL_law_1446 : decode cL_law 1446 = .ok (.aload_n 2, 1) := by decide +kernel
theorem dL_law_1447 : decode cL_law 1447 = .ok (.aload_n 0, 1) := by decide +kernel
theorem dL_law_1448 : decode cL_law 1448 = .ok (.iload_n 3, 1) := by decide +kernel
theorem dL_law_1449 : decode cL_law 1449 = .ok (.iconst 1, 1) := by decide +kernel
theorem dL_law_1450 : decode cL_law 1450 = .ok (.iadd, 1) := by decide +kernel
theorem dL_law_1451 : decode cL_law 1451 = .ok (.iaload, 1) := by decide +kernel
theorem dL_law_1452 : decode cL_law 1452 = .ok (.invokevirtual 190, 3) := by decide +kernel
theorem dL_law_1455 : decode cL_law 1455 = .ok (.if_icmp .eq 5, 3) := by decide +kernel
theorem dL_law_1458 : decode cL_law 1458 = .ok (.iconst 0, 1) := by decide +kernel
theorem dL_law_1459 : decode cL_law 1459 = .ok (.ireturn, 1) := by decide +kernel
theorem dL_law_1460 : decode cL_law 1460 = .ok (.iinc 3 6, 3) := by decide +kernel
theorem dL_law_1463 : decode cL_law 1463 = .ok (.goto (-1445), 3) := by decide +kernel
theorem dL_law_1466 : decode cL_law 1466 = .ok (.iconst 1, 1) := by decide +kernel
theorem dL_law_1467 : decode cL_law 1467 = .ok (.ireturn, 1) := by decide +kernel
end
section

def isNs : Cond → Bool
  | .fieldLinkNest _ _ _ _ _ _ => true
  | .methodLinkNest _ _ _ _ => true
  | _ => false
def GW : List Cond := lw_tbl.filter goodWord
def NL : List Cond := lw_tbl.filter isNs
theorem gw_of {w : Cond} (h : w ∈ lw_tbl) (hg : goodWord w = true) : w ∈ GW := List.mem_filter.mpr ⟨h, hg⟩
theorem nl_of {w : Cond} (h : w ∈ lw_tbl) (hg : isNs w = true) : w ∈ NL := List.mem_filter.mpr ⟨h, hg⟩
theorem gw_good {ws : List Cond} (h : ∀ w ∈ ws, w ∈ GW) : GoodIn GW ws := fun w hw => ⟨h w hw, good_of_word (List.mem_filter.mp (h w hw)).2⟩
theorem nl_onT {w : Cond} (h : w ∈ NL) : w.onTables = true := by
  have h1 := (List.mem_filter.mp h).2
  cases w <;> first | rfl | (simp [isNs] at h1)
theorem nl_warm {w : Cond} {s U : State} (h : w ∈ NL) (hW : s.WarmedH U.vm) (hZ : va_Nw w s) : va_Nw w U := by
  have h1 := (List.mem_filter.mp h).2
  cases w <;> first | exact va_Nw.warmF hW hZ | exact va_Nw.warmM hW hZ | (simp [isNs] at h1)
-- the memory: banks of numbers
abbrev Mem : Type := Nat → Nat → Int32
def upB (M : Mem) (b n : Nat) (v : Int32) : Mem := fun b' n' => if b' = b ∧ n' = n then v else M b' n'
def lhi (v : Int64) : Int32 := Int32.ofNat (v.toBitVec.toNat / 4294967296)
def llo (v : Int64) : Int32 := Int32.ofNat (v.toBitVec.toNat % 4294967296)
def ljn (h l : Int32) : Int64 := Int64.ofNat (h.toBitVec.toNat * 4294967296 + l.toBitVec.toNat)
theorem ljn_s (v : Int64) : ljn (lhi v) (llo v) = v := by
  apply Int64.toBitVec_inj.mp
  apply BitVec.eq_of_toNat_eq
  have h := v.toBitVec.isLt
  have e1 : (Int32.ofNat (v.toBitVec.toNat / 4294967296)).toBitVec.toNat = v.toBitVec.toNat / 4294967296 := by
    show (BitVec.ofNat 32 _).toNat = _
    rw [BitVec.toNat_ofNat]
    exact Nat.mod_eq_of_lt (by omega)
  have e2 : (Int32.ofNat (v.toBitVec.toNat % 4294967296)).toBitVec.toNat = v.toBitVec.toNat % 4294967296 := by
    show (BitVec.ofNat 32 _).toNat = _
    rw [BitVec.toNat_ofNat]
    exact Nat.mod_eq_of_lt (by omega)
  show (BitVec.ofNat 64 ((lhi v).toBitVec.toNat * 4294967296 + (llo v).toBitVec.toNat)).toNat = _
  rw [BitVec.toNat_ofNat]
  show (((Int32.ofNat (v.toBitVec.toNat / 4294967296)).toBitVec.toNat) * 4294967296 + (Int32.ofNat (v.toBitVec.toNat % 4294967296)).toBitVec.toNat) % 2 ^ 64 = _
  rw [e1, e2]
  omega
-- templates of the cells: numbers of the memory, fixed references
abbrev FS : Type := (Nat × Nat) ⊕ (Nat ⊕ (Nat × Nat))
abbrev CS : Type := (Nat × List FS) ⊕ ((Nat × Nat × Nat × Nat) ⊕ (Nat × List Nat))
def fvC (A : Nat → Nat) (M : Mem) : FS → Value
  | .inl q => .int (M q.1 q.2)
  | .inr (.inl p) => .ref (A p)
  | .inr (.inr q) => .long (ljn (M q.1 q.2) (M q.1 (q.2 + 1)))
def cvC (A : Nat → Nat) (cy : Nat → ClassId) (M : Mem) : CS → va_E
  | .inl o => .inr (o.1, o.2.map (fvC A M))
  | .inr (.inl a) => .inl (cy a.1, a.2.2.2, .inl (fun j => if j < a.2.2.2 then M a.2.1 (a.2.2.1 + j) else 0))
  | .inr (.inr r) => .inl (cy r.1, r.2.length, .inr (.inr (.inr (.inr (fun j => (r.2[j]?).map A)))))
def rdF : FS → List (Nat × Nat)
  | .inl q => [q]
  | .inr (.inl _) => []
  | .inr (.inr q) => [q, (q.1, q.2 + 1)]
def rdC : CS → List (Nat × Nat)
  | .inl o => o.2.flatMap rdF
  | .inr (.inl a) => (List.range a.2.2.2).map (fun j => (a.2.1, a.2.2.1 + j))
  | .inr (.inr _) => []
theorem cvC_congr {A : Nat → Nat} {cy : Nat → ClassId} {M M' : Mem} (c : CS) (h : ∀ r ∈ rdC c, M' r.1 r.2 = M r.1 r.2) : cvC A cy M' c = cvC A cy M c := by
  match c with
  | .inl o =>
    have key : o.2.map (fvC A M') = o.2.map (fvC A M) := by
      apply List.map_congr_left
      intro f hf
      have h' : ∀ r ∈ rdF f, M' r.1 r.2 = M r.1 r.2 := fun r hr => h r (List.mem_flatMap.mpr ⟨f, hf, hr⟩)
      match f, h' with
      | .inl q, h' => exact congrArg Value.int (h' q (List.mem_singleton.mpr rfl))
      | .inr (.inl _), _ => rfl
      | .inr (.inr q), h' =>
        show Value.long _ = Value.long _
        rw [h' q List.mem_cons_self, h' (q.1, q.2 + 1) (List.mem_cons_of_mem _ (List.mem_singleton.mpr rfl))]
    show Sum.inr (o.1, o.2.map (fvC A M')) = Sum.inr (o.1, o.2.map (fvC A M))
    rw [key]
  | .inr (.inl a) =>
    have key : (fun j => if j < a.2.2.2 then M' a.2.1 (a.2.2.1 + j) else 0) = (fun j => if j < a.2.2.2 then M a.2.1 (a.2.2.1 + j) else (0 : Int32)) := by
      funext j
      by_cases hj : j < a.2.2.2
      · rw [if_pos hj, if_pos hj]
        exact h (a.2.1, a.2.2.1 + j) (List.mem_map.mpr ⟨j, List.mem_range.mpr hj, rfl⟩)
      · rw [if_neg hj, if_neg hj]
    show Sum.inl (cy a.1, a.2.2.2, Sum.inl _) = Sum.inl (cy a.1, a.2.2.2, Sum.inl _)
    rw [key]
  | .inr (.inr r) => rfl
def wl (A : Nat → Nat) (cy : Nat → ClassId) (nP : Nat) (T : Nat → CS) (X : va_W) (M : Mem) : va_W := (List.range nP).map (fun p => (A p, cvC A cy M (T p))) ++ X
theorem wl_at {A : Nat → Nat} {cy : Nat → ClassId} {nP : Nat} {T : Nat → CS} {X : va_W} {M : Mem} {p : Nat} (hp : p < nP) : (wl A cy nP T X M)[p]? = some (A p, cvC A cy M (T p)) := by
  unfold wl
  rw [List.getElem?_append_left (by simp; exact hp)]
  simp [hp]
theorem wl_set {A : Nat → Nat} {cy : Nat → ClassId} {nP : Nat} {T : Nat → CS} {X : va_W} {M M' : Mem} {p : Nat} {e : va_E} (hp : p < nP) (he : e = cvC A cy M' (T p)) (ho : ∀ q, q < nP → q ≠ p → cvC A cy M' (T q) = cvC A cy M (T q)) : (wl A cy nP T X M).set p (A p, e) = wl A cy nP T X M' := by
  unfold wl
  rw [List.set_append_left _ _ (by simp; exact hp)]
  congr 1
  apply List.ext_getElem?
  intro k
  by_cases hk : k < nP
  · by_cases hkp : k = p
    · subst hkp
      rw [List.getElem?_set_self (by simp; exact hk)]
      simp [hk, he]
    · rw [List.getElem?_set_ne (Ne.symm hkp)]
      simp [hk, ho k hk hkp]
  · rw [List.getElem?_eq_none (by simp; omega), List.getElem?_eq_none (by simp; omega)]
theorem wl_fst {A : Nat → Nat} {cy : Nat → ClassId} {nP : Nat} {T : Nat → CS} {X : va_W} {M M' : Mem} : (wl A cy nP T X M').map Prod.fst = (wl A cy nP T X M).map Prod.fst := by
  simp [wl]
-- addresses alone decide regions and being apart
theorem fst_at {w w' : va_W} (h : w'.map Prod.fst = w.map Prod.fst) {k : Nat} {q : Nat × va_E} (hk : w'[k]? = some q) : ∃ q0, w[k]? = some q0 ∧ q0.1 = q.1 := by
  have h1 : (w'.map Prod.fst)[k]? = some q.1 := by rw [List.getElem?_map, hk]; rfl
  rw [h, List.getElem?_map] at h1
  cases hw : w[k]? with
  | none => rw [hw] at h1; cases h1
  | some q0 => rw [hw] at h1; exact ⟨q0, rfl, Option.some.inj h1⟩
theorem va_D_fst {A : Nat → Prop} {w w' : va_W} (h : w'.map Prod.fst = w.map Prod.fst) (hD : va_D A w) : va_D A w' := by
  refine ⟨fun i j p q hi hj e => ?_, fun k q hk => ?_⟩
  · obtain ⟨p0, a1, a2⟩ := fst_at h hi
    obtain ⟨q0, b1, b2⟩ := fst_at h hj
    exact hD.1 i j p0 q0 a1 b1 (a2.trans (e.trans b2.symm))
  · obtain ⟨q0, a1, a2⟩ := fst_at h hk
    rw [← a2]
    exact hD.2 k q0 a1
theorem va_A_fst {w w' : va_W} (h : w'.map Prod.fst = w.map Prod.fst) {sz q : Nat} (hq : va_A w' sz q) : va_A w sz q := by
  rcases hq with ⟨k, e, hk⟩ | hq
  · obtain ⟨q0, a1, a2⟩ := fst_at h hk
    exact Or.inl ⟨k, q0.2, by rw [a1, ← show q0.1 = q from a2]⟩
  · exact Or.inr hq

def strI : List Nat := [41, 50, 55, 116, 118, 120, 122, 124, 126, 128, 96, 104, 106]
def strT : List String := ["told", "water", "out", "curate", "envious", "sweet", "saint", "bishop", "hungry", "priest", "takes", "knows", "stuffed"]
def strL : List Nat := [4, 5, 3, 6, 7, 5, 5, 6, 6, 6, 5, 5, 7]
def strB : List (List Int32) := [[116, 111, 108, 100], [119, 97, 116, 101, 114], [111, 117, 116], [99, 117, 114, 97, 116, 101], [101, 110, 118, 105, 111, 117, 115], [115, 119, 101, 101, 116], [115, 97, 105, 110, 116], [98, 105, 115, 104, 111, 112], [104, 117, 110, 103, 114, 121], [112, 114, 105, 101, 115, 116], [116, 97, 107, 101, 115], [107, 110, 111, 119, 115], [115, 116, 117, 102, 102, 101, 100]]
def abvL : List Int32 := [-1, 0, 0, 1, 3, 0, 2]

def HV (sk : (Nat → Nat) × (Nat → Nat)) (A : Nat → Prop) (U : State) : Prop :=
  (∃ t, va_Z "RicePriests$Priest" "ABOVE" "[I" (.ref t) A U U.heap ∧ va_T .int t 7 (fun j => .int (abvL.getD j 0)) A U U.heap) ∧
  va_Z "java/lang/String" "COMPACT_STRINGS" "Z" (.int 1) A U U.heap ∧
  va_Zq "jdk/internal/util/Preconditions" "SIOOBE_FORMATTER" "Ljava/util/function/BiFunction;" A U U.heap ∧
  (∀ i, i < 13 → vk_R RX2 (strI.getD i 0) (strT.getD i "") (sk.1 i) U) ∧
  vk_S 13 strL strB sk.1 sk.2 A U U.heap
theorem HV.move {sk : (Nat → Nat) × (Nat → Nat)} {A A1 : Nat → Prop} {s U : State} (h : HV sk A s) (hW : s.WarmedH U.vm) (hq : ∀ a : Nat, a < s.heap.size → ¬ A a → U.heap[a]? = s.heap[a]?) (hA : ∀ q, A1 q → A q) : HV sk A1 U := by
  obtain ⟨⟨t, h1, h2⟩, h3, h4, h5, h6⟩ := h
  have hv := hW.alike
  exact ⟨⟨t, ((h1.moved hv).kept hq).narrow hA, ((h2.moved hv).kept hq).narrow hA⟩, ((h3.moved hv).kept hq).narrow hA, ((h4.moved hv).kept hq).narrow hA, fun i hi => (h5 i hi).warm hW, ((h6.moved hv).kept hq).narrow hA⟩
theorem HV.calling {sk : (Nat → Nat) × (Nat → Nat)} {A : Nat → Prop} {U : State} {g : JFrame} {mk : MethodId} {a : Array Value} (h : HV sk A U) : HV sk A (U.calling g mk a) := by
  obtain ⟨⟨t, h1, h2⟩, h3, h4, h5, h6⟩ := h
  have hv : U.vm.Alike (U.calling g mk a).vm := Vm.Alike.refl U.vm
  exact ⟨⟨t, h1.moved hv, h2.moved hv⟩, h3.moved hv, h4.moved hv, fun i hi => vk_R.same (U := U.calling g mk a) rfl (h5 i hi), h6.moved hv⟩


-- one method's own: name, code, width, what it gives
abbrev MD : Type := MethodName × ByteArray × Nat × Option FieldType
def cdW (y : MD) : Cond := .code y.1 y.2.1 y.2.2.1 y.2.2.2
abbrev tysC (cy : Nat → ClassId) : List (ClassId × FieldType) := [(cy 0, .int), (cy 1, .byte), (cy 2, .object "RicePriests$Priest"), (cy 3, .object "RicePriests$Sheet")]
def CF (y : MD) (n : Nat) : Prop := cdW y ∈ GW ∧ Cond.initialized y.1.cls ∈ GW ∧ (y.1.cls ≠ "java/lang/invoke/MethodHandle" ∧ y.1.cls ≠ "java/lang/invoke/VarHandle" ∧ (parseMethodDescriptor y.1.desc).map (fun d => d.parameters.length) = some n) ∧ plainFor y.1 = true
abbrev rmK (fr lc : Nat) : Room := { frames := fr, cells := 0, slots := 0, locals := lc }
def QG {σ : Type} (D : va_G) (wd : σ → va_W) (A0 : Nat → Prop) (Post : Option Value → σ → Prop) : Array Value → State → Outcome → State → Prop := fun _ st oc t => (∃ (v : Option Value) (M' : σ), oc = .returned v ∧ Post v M' ∧ va_P D vwCl (wd M') t.heap) ∧ va_F A0 st t
def preK {σ : Type} (sk : (Nat → Nat) × (Nat → Nat)) (D : va_G) (cy : Nat → ClassId) (wd : σ → va_W) (M : σ) (sz : Nat) (U : State) : Prop := U.heap.size = sz ∧ va_P D vwCl (wd M) U.heap ∧ va_K D vwCl (tysC cy) U ∧ va_D (fun _ => True) (wd M) ∧ (∀ w ∈ NL, va_Nw w U) ∧ HV sk (va_A (wd M) sz) U
/-- a contract -/
def Con {σ : Type} (l : Launch) (sk : (Nat → Nat) × (Nat → Nat)) (D : va_G) (cy : Nat → ClassId) (wd : σ → va_W) (y : MD) (fr lc : Nat) (av : List Value) (M : σ) (Post : Option Value → σ → Prop) : Prop :=
  ∀ sz : Nat, Met l y.1 (cdW y :: GW) (rmK fr lc) (va_Pc av (preK sk D cy wd M sz)) (QG D wd (va_A (wd M) sz) Post) 0 0 (va_A (wd M) sz)
def rt1 {σ : Type} (v : Option Value) (M : σ) : Option Value → σ → Prop := fun v' M' => v' = v ∧ M' = M
theorem Con.mono {σ : Type} {l : Launch} {sk : (Nat → Nat) × (Nat → Nat)} {D : va_G} {cy : Nat → ClassId} {wd : σ → va_W} {y : MD} {fr lc : Nat} {av : List Value} {M : σ} {P P' : Option Value → σ → Prop} (h : Con l sk D cy wd y fr lc av M P) (hp : ∀ v M', P v M' → P' v M') : Con l sk D cy wd y fr lc av M P' := by
  intro sz p e ha hc hk s m args below hf h1 h2 h3
  obtain ⟨k, o, a1, a2, a3, ⟨⟨v, M', b1, b2, b3⟩, b4⟩, a5⟩ := h sz p e ha hc hk s m args below hf h1 h2 h3
  exact ⟨k, o, a1, a2, a3, ⟨⟨v, M', b1, hp v M' b2, b3⟩, b4⟩, a5⟩
theorem Con.cast {σ : Type} {l : Launch} {sk : (Nat → Nat) × (Nat → Nat)} {D : va_G} {cy : Nat → ClassId} {wd : σ → va_W} {y : MD} {fr lc : Nat} {av : List Value} {M : σ} {v v' : Option Value} {M1 M2 : σ} (h : Con l sk D cy wd y fr lc av M (rt1 v M1)) (hv : v = v') (hM : M1 = M2) : Con l sk D cy wd y fr lc av M (rt1 v' M2) := by
  subst hv; subst hM; exact h
-- what stands in a method's body
def BS {σ : Type} (sk : (Nat → Nat) × (Nat → Nat)) (D : va_G) (cy : Nat → ClassId) (wd : σ → va_W) (A0 : Nat → Prop) (p : Program) (s : State) (m : MethodId) (args : Array Value) (c : Code) (own : String) (cc : ByteArray) (nL : Nat) : Prop :=
  CallFix p m c cc nL s args GW own ∧ va_K D vwCl (tysC cy) s ∧ (∀ w ∈ NL, va_Nw w s) ∧ (∀ M : σ, va_D A0 (wd M)) ∧ HV sk A0 s ∧ (∀ q : Nat, s.heap.size ≤ q → A0 q) ∧ (∀ M M' : σ, (wd M').map Prod.fst = (wd M).map Prod.fst)
def lo2 : Nat → List (Option Value) → List (Nat × Value)
  | _, [] => []
  | i, none :: r => lo2 (i + 1) r
  | i, some v :: r => (i, v) :: lo2 (i + 1) r
theorem lo2_mem : ∀ (lo : List (Option Value)) (i0 i : Nat) (v : Value), lo[i]? = some (some v) → (i0 + i, v) ∈ lo2 i0 lo
  | [], _, i, v, h => by simp at h
  | none :: r, i0, 0, v, h => by simp at h
  | some u :: r, i0, 0, v, h => by
    rw [List.getElem?_cons_zero] at h
    cases h
    exact List.mem_cons_self
  | none :: r, i0, i + 1, v, h => by
    rw [List.getElem?_cons_succ] at h
    have := lo2_mem r (i0 + 1) i v h
    rw [show i0 + (i + 1) = i0 + 1 + i by omega]
    exact this
  | some u :: r, i0, i + 1, v, h => by
    rw [List.getElem?_cons_succ] at h
    have := lo2_mem r (i0 + 1) i v h
    rw [show i0 + (i + 1) = i0 + 1 + i by omega]
    exact List.mem_cons_of_mem _ this
theorem lo2_ge : ∀ (lo : List (Option Value)) (i0 : Nat) (q : Nat × Value), q ∈ lo2 i0 lo → i0 ≤ q.1 ∧ lo[q.1 - i0]? = some (some q.2)
  | [], _, q, h => by simp [lo2] at h
  | none :: r, i0, q, h => by
    obtain ⟨h1, h2⟩ := lo2_ge r (i0 + 1) q h
    refine ⟨by omega, ?_⟩
    rw [show q.1 - i0 = (q.1 - (i0 + 1)) + 1 by omega, List.getElem?_cons_succ]
    exact h2
  | some u :: r, i0, q, h => by
    rcases List.mem_cons.mp h with h | h
    · rw [h]
      exact ⟨Nat.le_refl _, by simp⟩
    · obtain ⟨h1, h2⟩ := lo2_ge r (i0 + 1) q h
      refine ⟨by omega, ?_⟩
      rw [show q.1 - i0 = (q.1 - (i0 + 1)) + 1 by omega, List.getElem?_cons_succ]
      exact h2
theorem lo_at {ls : Array Slot} {nL i : Nat} {lo : List (Option Value)} {v : Value} (h : lv_has ls nL (lo2 0 lo)) (hl : lo[i]? = some (some v)) : ls[i]? = some (.val v) := by
  have := lo2_mem lo 0 i v hl
  rw [Nat.zero_add] at this
  exact h.2.2 _ this
/-- a slot is written: what was known of the others stays, but for a long that lies over it -/
theorem lo_put {ls : Array Slot} {nL i : Nat} {lo lo' : List (Option Value)} {v : Value} (h : lv_has ls nL ((i, v) :: (lo2 0 lo).filter (fun q => !(q.1 == i) && !(q.1 + 1 == i && q.2.category == 2)))) (hs : ∀ (j : Nat) (u : Value), lo'[j]? = some (some u) → (j = i ∧ u = v) ∨ (j ≠ i ∧ lo[j]? = some (some u) ∧ (j + 1 = i → u.category = 1))) : lv_has ls nL (lo2 0 lo') := by
  refine ⟨h.1, h.2.1, fun q hq => ?_⟩
  obtain ⟨-, h2⟩ := lo2_ge lo' 0 q hq
  rw [Nat.sub_zero] at h2
  rcases hs q.1 q.2 h2 with ⟨a1, a2⟩ | ⟨a1, a2, a3⟩
  · have := h.2.2 (i, v) List.mem_cons_self
    rw [a1, a2]
    exact this
  · refine h.2.2 q (List.mem_cons_of_mem _ (List.mem_filter.mpr ⟨?_, ?_⟩))
    · have := lo2_mem lo 0 q.1 q.2 a2
      rw [Nat.zero_add] at this
      exact this
    · by_cases hj : q.1 + 1 = i
      · simp [a1, hj, a3 hj]
      · simp [a1, hj]
theorem lo_putL {ls : Array Slot} {nL i : Nat} {lo lo' : List (Option Value)} {v : Value} (h : lv_has ls nL ((i, v) :: (lo2 0 lo).filter (fun q => !(q.1 == i) && (!(q.1 == i + 1) && !(q.1 + 1 == i && q.2.category == 2))))) (hs : ∀ (j : Nat) (u : Value), lo'[j]? = some (some u) → (j = i ∧ u = v) ∨ (j ≠ i ∧ j ≠ i + 1 ∧ lo[j]? = some (some u) ∧ (j + 1 = i → u.category = 1))) : lv_has ls nL (lo2 0 lo') := by
  refine ⟨h.1, h.2.1, fun q hq => ?_⟩
  obtain ⟨-, h2⟩ := lo2_ge lo' 0 q hq
  rw [Nat.sub_zero] at h2
  rcases hs q.1 q.2 h2 with ⟨a1, a2⟩ | ⟨a1, b1, a2, a3⟩
  · have := h.2.2 (i, v) List.mem_cons_self
    rw [a1, a2]
    exact this
  · refine h.2.2 q (List.mem_cons_of_mem _ (List.mem_filter.mpr ⟨?_, ?_⟩))
    · have := lo2_mem lo 0 q.1 q.2 a2
      rw [Nat.zero_add] at this
      exact this
    · by_cases hj : q.1 + 1 = i
      · simp [a1, b1, hj, a3 hj]
      · simp [a1, b1, hj]
def entL : List Value → List (Option Value)
  | [] => []
  | v :: r => some v :: (if v.category = 2 then none :: entL r else entL r)
theorem ent_ok : ∀ (av : List Value) (i0 k : Nat) (q : Nat × Value), q ∈ lo2 i0 (entL av ++ List.replicate k none) → q ∈ lv_args i0 av
  | [], i0, k, q, h => by
    have hn : ∀ (k i : Nat), lo2 i (List.replicate k none) = [] := by
      intro k
      induction k with
      | zero => intro i; rfl
      | succ k ih => intro i; exact ih (i + 1)
    rw [show entL [] ++ List.replicate k none = List.replicate k none from rfl, hn] at h
    exact h
  | v :: r, i0, k, q, h => by
    by_cases hc : v.category = 2
    · have e : lo2 i0 (entL (v :: r) ++ List.replicate k none) = (i0, v) :: lo2 (i0 + 1 + 1) (entL r ++ List.replicate k none) := by
        simp [entL, hc, lo2]
      rw [e] at h
      rcases List.mem_cons.mp h with h | h
      · rw [h]; exact List.mem_cons_self
      · have := ent_ok r _ k q h
        show q ∈ (i0, v) :: lv_args (if v.category = 2 then i0 + 2 else i0 + 1) r
        rw [if_pos hc]
        exact List.mem_cons_of_mem _ this
    · have e : lo2 i0 (entL (v :: r) ++ List.replicate k none) = (i0, v) :: lo2 (i0 + 1) (entL r ++ List.replicate k none) := by
        simp [entL, hc, lo2]
      rw [e] at h
      rcases List.mem_cons.mp h with h | h
      · rw [h]; exact List.mem_cons_self
      · have := ent_ok r _ k q h
        show q ∈ (i0, v) :: lv_args (if v.category = 2 then i0 + 2 else i0 + 1) r
        rw [if_neg hc]
        exact List.mem_cons_of_mem _ this
/-- the abstract W -/
def AW {σ : Type} (p : Program) (l : Launch) (e : Env) (R : Room) (s : State) (m : MethodId) (args : Array Value) (below : List Frame) (meth : Method) (c : Code) (D : va_G) (wd : σ → va_W) (A0 : Nat → Prop) (nL cells slots : Nat) (Q : State → Prop) (pc : Nat) (lo : List (Option Value)) (st : List Value) (M : σ) : Prop :=
  ∀ (H : Heap) (locs : List Loc) (ls : Array Slot), va_P D vwCl (wd M) H → va_S A0 s.heap H locs → lv_has ls nL (lo2 0 lo) → W p l e R s m args below meth c H locs cells slots Q (F0 m pc ls st)
theorem Con.of {σ : Type} {l : Launch} {sk : (Nat → Nat) × (Nat → Nat)} {D : va_G} {cy : Nat → ClassId} {wd : σ → va_W} {y : MD} {n fr lc : Nat} {av : List Value} {M : σ} {Post : Option Value → σ → Prop} {lo : List (Option Value)} (hF : CF y n) (hs : ∀ M M' : σ, (wd M').map Prod.fst = (wd M).map Prod.fst) (k : Nat) (hlo : entL av ++ List.replicate k none = lo) (hlen : (lg_sl av).length ≤ y.2.2.1)
    (body : ∀ (p : Program) (e : Env) (s : State) (m : MethodId) (args : Array Value) (below : List Frame) (meth : Method) (c : Code) (A0 : Nat → Prop), BS sk D cy wd A0 p s m args c y.1.cls y.2.1 y.2.2.1 → meth.sig.returnType = y.2.2.2 → meth.locks = false → AW p l e (rmK fr lc) s m args below meth c D wd A0 y.2.2.1 0 0 (MQ below (QG D wd A0 Post) args s 0 0 A0) 0 lo [] M) : Con l sk D cy wd y fr lc av M Post := by
  intro sz
  refine va_MetF (cc := y.2.1) (maxL := y.2.2.1) (ret := y.2.2.2) (ws' := GW) hF.2.2.2 rfl ?_
  intro p e s m args below meth c s₁ B hml hv
  obtain ⟨hav, hsz, hP, hK, hD, hN, hH⟩ := hv
  subst hav
  subst hsz
  have hts := atoms_spec (ws := cdW y :: GW) B.pre
  have hown : s.vm.findClass y.1.cls = some m.cls := findClass_of_methodNamed B.named
  have hlocks := B.notSynchronized
  have hb := body p e s m av.toArray below meth c (va_A (wd M) s.heap.size) ⟨⟨B.exec, B.bytes, hml, hown, fun w hw => hts w (List.mem_cons_of_mem _ hw)⟩, hK, hN, fun M' => va_D_fst (hs M M') hD.self, hH, fun q h => Or.inr h, hs⟩ B.returns hlocks
  rw [lg_entry_eq]
  refine hb s.heap [] _ hP va_S.rf ?_
  have hl := lv_entry av (n := y.2.2.1) hlen
  subst hlo
  exact ⟨hl.1, hl.2.1, fun q hq => hl.2.2 q (ent_ok av 0 k q hq)⟩

section AWS
variable {σ : Type} {p : Program} {l : Launch} {e : Env} {R : Room} {s : State} {m : MethodId} {args : Array Value} {below : List Frame} {meth : Method} {c : Code} {sk : (Nat → Nat) × (Nat → Nat)} {D : va_G} {cy : Nat → ClassId} {wd : σ → va_W} {A0 : Nat → Prop} {own : String} {cc : ByteArray} {nL cells slots : Nat} {Q : State → Prop} {pc : Nat} {lo : List (Option Value)} {st : List Value} {M : σ}
theorem a_iconst {n : Int} {v : Int32} (B : BS sk D cy wd A0 p s m args c own cc nL) (hdg : decode cc pc = .ok (.iconst n, 1)) (hv : Int32.ofInt n = v) (k : AW p l e R s m args below meth c D wd A0 nL cells slots Q (pc + 1) (lo) (.int v :: st) (M)) : AW p l e R s m args below meth c D wd A0 nL cells slots Q (pc) (lo) (st) (M) := by
  intro H locs ls hP hS hL
  exact lv_iconst B.1.1 B.1.2.1 hdg hv (k H locs ls hP hS hL)
theorem a_bipush {n : Int} {v : Int32} (B : BS sk D cy wd A0 p s m args c own cc nL) (hdg : decode cc pc = .ok (.bipush n, 2)) (hv : (Int8.ofInt n).toInt32 = v) (k : AW p l e R s m args below meth c D wd A0 nL cells slots Q (pc + 2) (lo) (.int v :: st) (M)) : AW p l e R s m args below meth c D wd A0 nL cells slots Q (pc) (lo) (st) (M) := by
  intro H locs ls hP hS hL
  exact lv_bipush B.1.1 B.1.2.1 hdg hv (k H locs ls hP hS hL)
theorem a_sipush {n : Int} {v : Int32} (B : BS sk D cy wd A0 p s m args c own cc nL) (hdg : decode cc pc = .ok (.sipush n, 3)) (hv : (Int16.ofInt n).toInt32 = v) (k : AW p l e R s m args below meth c D wd A0 nL cells slots Q (pc + 3) (lo) (.int v :: st) (M)) : AW p l e R s m args below meth c D wd A0 nL cells slots Q (pc) (lo) (st) (M) := by
  intro H locs ls hP hS hL
  exact lv_sipush B.1.1 B.1.2.1 hdg hv (k H locs ls hP hS hL)
theorem a_lconst {n : Fin 2} {v : Int64} (B : BS sk D cy wd A0 p s m args c own cc nL) (hdg : decode cc pc = .ok (.lconst n, 1)) (hv : Int64.ofNat (n : Nat) = v) (k : AW p l e R s m args below meth c D wd A0 nL cells slots Q (pc + 1) (lo) (.long v :: st) (M)) : AW p l e R s m args below meth c D wd A0 nL cells slots Q (pc) (lo) (st) (M) := by
  intro H locs ls hP hS hL
  exact lv_lconst B.1.1 B.1.2.1 hdg hv (k H locs ls hP hS hL)
theorem a_null  (B : BS sk D cy wd A0 p s m args c own cc nL) (hdg : decode cc pc = .ok (.aconst_null, 1))  (k : AW p l e R s m args below meth c D wd A0 nL cells slots Q (pc + 1) (lo) (.null :: st) (M)) : AW p l e R s m args below meth c D wd A0 nL cells slots Q (pc) (lo) (st) (M) := by
  intro H locs ls hP hS hL
  exact lv_null B.1.1 B.1.2.1 hdg (k H locs ls hP hS hL)
theorem a_ldc {index : Nat} {v : Int32} (B : BS sk D cy wd A0 p s m args c own cc nL) (hdg : decode cc pc = .ok (.ldc index, 2)) (hc : Cond.constant own index v ∈ GW) (k : AW p l e R s m args below meth c D wd A0 nL cells slots Q (pc + 2) (lo) (.int v :: st) (M)) : AW p l e R s m args below meth c D wd A0 nL cells slots Q (pc) (lo) (st) (M) := by
  intro H locs ls hP hS hL
  exact lv_ldc B.1.1 B.1.2.1 B.1.2.2.2.1 (B.1.2.2.2.2 _ hc) hdg (k H locs ls hP hS hL)
theorem a_ldcw {index : Nat} {v : Int32} (B : BS sk D cy wd A0 p s m args c own cc nL) (hdg : decode cc pc = .ok (.ldc_w index, 3)) (hc : Cond.constant own index v ∈ GW) (k : AW p l e R s m args below meth c D wd A0 nL cells slots Q (pc + 3) (lo) (.int v :: st) (M)) : AW p l e R s m args below meth c D wd A0 nL cells slots Q (pc) (lo) (st) (M) := by
  intro H locs ls hP hS hL
  exact lv_ldcw B.1.1 B.1.2.1 B.1.2.2.2.1 (B.1.2.2.2.2 _ hc) hdg (k H locs ls hP hS hL)
theorem a_ldc2 {index : Nat} {v : Int64} (B : BS sk D cy wd A0 p s m args c own cc nL) (hdg : decode cc pc = .ok (.ldc2_w index, 3)) (hc : Cond.constantLong own index v ∈ GW) (k : AW p l e R s m args below meth c D wd A0 nL cells slots Q (pc + 3) (lo) (.long v :: st) (M)) : AW p l e R s m args below meth c D wd A0 nL cells slots Q (pc) (lo) (st) (M) := by
  intro H locs ls hP hS hL
  exact lv_ldc2 B.1.1 B.1.2.1 B.1.2.2.2.1 (B.1.2.2.2.2 _ hc) hdg (k H locs ls hP hS hL)
theorem a_iload_n {j : Fin 4} {x : Int32} (B : BS sk D cy wd A0 p s m args c own cc nL) (hdg : decode cc pc = .ok (.iload_n j, 1)) (hl : lo[(j : Nat)]? = some (some (.int x))) (k : AW p l e R s m args below meth c D wd A0 nL cells slots Q (pc + 1) (lo) (.int x :: st) (M)) : AW p l e R s m args below meth c D wd A0 nL cells slots Q (pc) (lo) (st) (M) := by
  intro H locs ls hP hS hL
  exact lv_iload_n B.1.1 B.1.2.1 hdg rfl (lo_at hL hl) (k H locs ls hP hS hL)
theorem a_iload {j : Nat} {x : Int32} (B : BS sk D cy wd A0 p s m args c own cc nL) (hdg : decode cc pc = .ok (.iload j, 2)) (hl : lo[j]? = some (some (.int x))) (k : AW p l e R s m args below meth c D wd A0 nL cells slots Q (pc + 2) (lo) (.int x :: st) (M)) : AW p l e R s m args below meth c D wd A0 nL cells slots Q (pc) (lo) (st) (M) := by
  intro H locs ls hP hS hL
  exact lv_iload B.1.1 B.1.2.1 hdg (lo_at hL hl) (k H locs ls hP hS hL)
theorem a_lload_n {j : Fin 4} {x : Int64} (B : BS sk D cy wd A0 p s m args c own cc nL) (hdg : decode cc pc = .ok (.lload_n j, 1)) (hl : lo[(j : Nat)]? = some (some (.long x))) (k : AW p l e R s m args below meth c D wd A0 nL cells slots Q (pc + 1) (lo) (.long x :: st) (M)) : AW p l e R s m args below meth c D wd A0 nL cells slots Q (pc) (lo) (st) (M) := by
  intro H locs ls hP hS hL
  exact lv_lload_n B.1.1 B.1.2.1 hdg rfl (lo_at hL hl) (k H locs ls hP hS hL)
theorem a_lload {j : Nat} {x : Int64} (B : BS sk D cy wd A0 p s m args c own cc nL) (hdg : decode cc pc = .ok (.lload j, 2)) (hl : lo[j]? = some (some (.long x))) (k : AW p l e R s m args below meth c D wd A0 nL cells slots Q (pc + 2) (lo) (.long x :: st) (M)) : AW p l e R s m args below meth c D wd A0 nL cells slots Q (pc) (lo) (st) (M) := by
  intro H locs ls hP hS hL
  exact lv_lload B.1.1 B.1.2.1 hdg (lo_at hL hl) (k H locs ls hP hS hL)
theorem a_aload_n {j : Fin 4} {x : Nat} (B : BS sk D cy wd A0 p s m args c own cc nL) (hdg : decode cc pc = .ok (.aload_n j, 1)) (hl : lo[(j : Nat)]? = some (some (.ref x))) (k : AW p l e R s m args below meth c D wd A0 nL cells slots Q (pc + 1) (lo) (.ref x :: st) (M)) : AW p l e R s m args below meth c D wd A0 nL cells slots Q (pc) (lo) (st) (M) := by
  intro H locs ls hP hS hL
  exact lv_aload_n B.1.1 B.1.2.1 hdg rfl (lo_at hL hl) (k H locs ls hP hS hL)
theorem a_aload {j : Nat} {x : Nat} (B : BS sk D cy wd A0 p s m args c own cc nL) (hdg : decode cc pc = .ok (.aload j, 2)) (hl : lo[j]? = some (some (.ref x))) (k : AW p l e R s m args below meth c D wd A0 nL cells slots Q (pc + 2) (lo) (.ref x :: st) (M)) : AW p l e R s m args below meth c D wd A0 nL cells slots Q (pc) (lo) (st) (M) := by
  intro H locs ls hP hS hL
  exact lv_aload B.1.1 B.1.2.1 hdg (lo_at hL hl) (k H locs ls hP hS hL)
theorem a_aload_nN {j : Fin 4} (B : BS sk D cy wd A0 p s m args c own cc nL) (hdg : decode cc pc = .ok (.aload_n j, 1)) (hl : lo[(j : Nat)]? = some (some .null)) (k : AW p l e R s m args below meth c D wd A0 nL cells slots Q (pc + 1) (lo) (.null :: st) (M)) : AW p l e R s m args below meth c D wd A0 nL cells slots Q (pc) (lo) (st) (M) := by
  intro H locs ls hP hS hL
  exact lv_aload_nN B.1.1 B.1.2.1 hdg rfl (lo_at hL hl) (k H locs ls hP hS hL)
theorem a_aloadN {j : Nat} (B : BS sk D cy wd A0 p s m args c own cc nL) (hdg : decode cc pc = .ok (.aload j, 2)) (hl : lo[j]? = some (some .null)) (k : AW p l e R s m args below meth c D wd A0 nL cells slots Q (pc + 2) (lo) (.null :: st) (M)) : AW p l e R s m args below meth c D wd A0 nL cells slots Q (pc) (lo) (st) (M) := by
  intro H locs ls hP hS hL
  exact lv_aloadN B.1.1 B.1.2.1 hdg (lo_at hL hl) (k H locs ls hP hS hL)
theorem s_istore_n {j : Fin 4} {x : Int32} {lo' : List (Option Value)} (B : BS sk D cy wd A0 p s m args c own cc nL) (hdg : decode cc pc = .ok (.istore_n j, 1)) (hn : ((j : Nat)) < nL) (hs : ∀ (i : Nat) (u : Value), lo'[i]? = some (some u) → (i = (j : Nat) ∧ u = .int x) ∨ (i ≠ (j : Nat) ∧ lo[i]? = some (some u) ∧ (i + 1 = (j : Nat) → u.category = 1))) (k : AW p l e R s m args below meth c D wd A0 nL cells slots Q (pc + 1) (lo') (st) (M)) : AW p l e R s m args below meth c D wd A0 nL cells slots Q (pc) (lo) (.int x :: st) (M) := by
  intro H locs ls hP hS hL
  exact lv_istore_n B.1.1 B.1.2.1 hdg rfl hL hn rfl (fun ls hL2 => k H locs ls hP hS (lo_put hL2 hs))
theorem s_istore {j : Nat} {x : Int32} {lo' : List (Option Value)} (B : BS sk D cy wd A0 p s m args c own cc nL) (hdg : decode cc pc = .ok (.istore j, 2)) (hn : (j) < nL) (hs : ∀ (i : Nat) (u : Value), lo'[i]? = some (some u) → (i = j ∧ u = .int x) ∨ (i ≠ j ∧ lo[i]? = some (some u) ∧ (i + 1 = j → u.category = 1))) (k : AW p l e R s m args below meth c D wd A0 nL cells slots Q (pc + 2) (lo') (st) (M)) : AW p l e R s m args below meth c D wd A0 nL cells slots Q (pc) (lo) (.int x :: st) (M) := by
  intro H locs ls hP hS hL
  exact lv_istore B.1.1 B.1.2.1 hdg hL hn rfl (fun ls hL2 => k H locs ls hP hS (lo_put hL2 hs))
theorem s_astore_n {j : Fin 4} {x : Nat} {lo' : List (Option Value)} (B : BS sk D cy wd A0 p s m args c own cc nL) (hdg : decode cc pc = .ok (.astore_n j, 1)) (hn : ((j : Nat)) < nL) (hs : ∀ (i : Nat) (u : Value), lo'[i]? = some (some u) → (i = (j : Nat) ∧ u = .ref x) ∨ (i ≠ (j : Nat) ∧ lo[i]? = some (some u) ∧ (i + 1 = (j : Nat) → u.category = 1))) (k : AW p l e R s m args below meth c D wd A0 nL cells slots Q (pc + 1) (lo') (st) (M)) : AW p l e R s m args below meth c D wd A0 nL cells slots Q (pc) (lo) (.ref x :: st) (M) := by
  intro H locs ls hP hS hL
  exact lv_astore_n B.1.1 B.1.2.1 hdg rfl hL hn rfl (fun ls hL2 => k H locs ls hP hS (lo_put hL2 hs))
theorem s_astore {j : Nat} {x : Nat} {lo' : List (Option Value)} (B : BS sk D cy wd A0 p s m args c own cc nL) (hdg : decode cc pc = .ok (.astore j, 2)) (hn : (j) < nL) (hs : ∀ (i : Nat) (u : Value), lo'[i]? = some (some u) → (i = j ∧ u = .ref x) ∨ (i ≠ j ∧ lo[i]? = some (some u) ∧ (i + 1 = j → u.category = 1))) (k : AW p l e R s m args below meth c D wd A0 nL cells slots Q (pc + 2) (lo') (st) (M)) : AW p l e R s m args below meth c D wd A0 nL cells slots Q (pc) (lo) (.ref x :: st) (M) := by
  intro H locs ls hP hS hL
  exact lv_astore B.1.1 B.1.2.1 hdg hL hn rfl (fun ls hL2 => k H locs ls hP hS (lo_put hL2 hs))
theorem s_astore_nN {j : Fin 4} {lo' : List (Option Value)} (B : BS sk D cy wd A0 p s m args c own cc nL) (hdg : decode cc pc = .ok (.astore_n j, 1)) (hn : ((j : Nat)) < nL) (hs : ∀ (i : Nat) (u : Value), lo'[i]? = some (some u) → (i = (j : Nat) ∧ u = .null) ∨ (i ≠ (j : Nat) ∧ lo[i]? = some (some u) ∧ (i + 1 = (j : Nat) → u.category = 1))) (k : AW p l e R s m args below meth c D wd A0 nL cells slots Q (pc + 1) (lo') (st) (M)) : AW p l e R s m args below meth c D wd A0 nL cells slots Q (pc) (lo) (.null :: st) (M) := by
  intro H locs ls hP hS hL
  exact lv_astore_nN B.1.1 B.1.2.1 hdg rfl hL hn rfl (fun ls hL2 => k H locs ls hP hS (lo_put hL2 hs))
theorem s_astoreN {j : Nat} {lo' : List (Option Value)} (B : BS sk D cy wd A0 p s m args c own cc nL) (hdg : decode cc pc = .ok (.astore j, 2)) (hn : (j) < nL) (hs : ∀ (i : Nat) (u : Value), lo'[i]? = some (some u) → (i = j ∧ u = .null) ∨ (i ≠ j ∧ lo[i]? = some (some u) ∧ (i + 1 = j → u.category = 1))) (k : AW p l e R s m args below meth c D wd A0 nL cells slots Q (pc + 2) (lo') (st) (M)) : AW p l e R s m args below meth c D wd A0 nL cells slots Q (pc) (lo) (.null :: st) (M) := by
  intro H locs ls hP hS hL
  exact lv_astoreN B.1.1 B.1.2.1 hdg hL hn rfl (fun ls hL2 => k H locs ls hP hS (lo_put hL2 hs))
theorem s_lstore_n {j : Fin 4} {x : Int64} {lo' : List (Option Value)} (B : BS sk D cy wd A0 p s m args c own cc nL) (hdg : decode cc pc = .ok (.lstore_n j, 1)) (hn : ((j : Nat)) + 1 < nL) (hs : ∀ (i : Nat) (u : Value), lo'[i]? = some (some u) → (i = (j : Nat) ∧ u = .long x) ∨ (i ≠ (j : Nat) ∧ i ≠ (j : Nat) + 1 ∧ lo[i]? = some (some u) ∧ (i + 1 = (j : Nat) → u.category = 1))) (k : AW p l e R s m args below meth c D wd A0 nL cells slots Q (pc + 1) (lo') (st) (M)) : AW p l e R s m args below meth c D wd A0 nL cells slots Q (pc) (lo) (.long x :: st) (M) := by
  intro H locs ls hP hS hL
  exact lv_lstore_n B.1.1 B.1.2.1 hdg rfl hL hn rfl (fun ls hL2 => k H locs ls hP hS (lo_putL hL2 hs))
theorem s_lstore {j : Nat} {x : Int64} {lo' : List (Option Value)} (B : BS sk D cy wd A0 p s m args c own cc nL) (hdg : decode cc pc = .ok (.lstore j, 2)) (hn : (j) + 1 < nL) (hs : ∀ (i : Nat) (u : Value), lo'[i]? = some (some u) → (i = j ∧ u = .long x) ∨ (i ≠ j ∧ i ≠ j + 1 ∧ lo[i]? = some (some u) ∧ (i + 1 = j → u.category = 1))) (k : AW p l e R s m args below meth c D wd A0 nL cells slots Q (pc + 2) (lo') (st) (M)) : AW p l e R s m args below meth c D wd A0 nL cells slots Q (pc) (lo) (.long x :: st) (M) := by
  intro H locs ls hP hS hL
  exact lv_lstore B.1.1 B.1.2.1 hdg hL hn rfl (fun ls hL2 => k H locs ls hP hS (lo_putL hL2 hs))
theorem s_iinc {j : Nat} {n : Int} {x v : Int32} {lo' : List (Option Value)} (B : BS sk D cy wd A0 p s m args c own cc nL) (hdg : decode cc pc = .ok (.iinc j n, 3)) (hl : lo[j]? = some (some (.int x))) (hv : x + Int32.ofInt n = v) (hn : j < nL) (hs : ∀ (i : Nat) (u : Value), lo'[i]? = some (some u) → (i = j ∧ u = .int v) ∨ (i ≠ j ∧ lo[i]? = some (some u) ∧ (i + 1 = j → u.category = 1))) (k : AW p l e R s m args below meth c D wd A0 nL cells slots Q (pc + 3) (lo') (st) (M)) : AW p l e R s m args below meth c D wd A0 nL cells slots Q (pc) (lo) (st) (M) := by
  intro H locs ls hP hS hL
  obtain ⟨k0, hk0⟩ := List.getElem?_of_mem (lo2_mem lo 0 j _ hl)
  rw [Nat.zero_add] at hk0
  exact lv_iinc B.1.1 B.1.2.1 hdg hL hk0 hv hn rfl (fun ls hL2 => k H locs ls hP hS (lo_put hL2 hs))
theorem a_iadd {x y : Int32} (B : BS sk D cy wd A0 p s m args c own cc nL) (hdg : decode cc pc = .ok (.iadd, 1))  (k : AW p l e R s m args below meth c D wd A0 nL cells slots Q (pc + 1) (lo) (.int (x + y) :: st) (M)) : AW p l e R s m args below meth c D wd A0 nL cells slots Q (pc) (lo) (.int y :: .int x :: st) (M) := by
  intro H locs ls hP hS hL
  exact lv_iadd B.1.1 B.1.2.1 hdg (k H locs ls hP hS hL)
theorem a_isub {x y : Int32} (B : BS sk D cy wd A0 p s m args c own cc nL) (hdg : decode cc pc = .ok (.isub, 1))  (k : AW p l e R s m args below meth c D wd A0 nL cells slots Q (pc + 1) (lo) (.int (x - y) :: st) (M)) : AW p l e R s m args below meth c D wd A0 nL cells slots Q (pc) (lo) (.int y :: .int x :: st) (M) := by
  intro H locs ls hP hS hL
  exact lv_isub B.1.1 B.1.2.1 hdg (k H locs ls hP hS hL)
theorem a_imul {x y : Int32} (B : BS sk D cy wd A0 p s m args c own cc nL) (hdg : decode cc pc = .ok (.imul, 1))  (k : AW p l e R s m args below meth c D wd A0 nL cells slots Q (pc + 1) (lo) (.int (x * y) :: st) (M)) : AW p l e R s m args below meth c D wd A0 nL cells slots Q (pc) (lo) (.int y :: .int x :: st) (M) := by
  intro H locs ls hP hS hL
  exact lv_imul B.1.1 B.1.2.1 hdg (k H locs ls hP hS hL)
theorem a_iand {x y : Int32} (B : BS sk D cy wd A0 p s m args c own cc nL) (hdg : decode cc pc = .ok (.iand, 1))  (k : AW p l e R s m args below meth c D wd A0 nL cells slots Q (pc + 1) (lo) (.int (x &&& y) :: st) (M)) : AW p l e R s m args below meth c D wd A0 nL cells slots Q (pc) (lo) (.int y :: .int x :: st) (M) := by
  intro H locs ls hP hS hL
  exact lv_iand B.1.1 B.1.2.1 hdg (k H locs ls hP hS hL)
theorem a_ior {x y : Int32} (B : BS sk D cy wd A0 p s m args c own cc nL) (hdg : decode cc pc = .ok (.ior, 1))  (k : AW p l e R s m args below meth c D wd A0 nL cells slots Q (pc + 1) (lo) (.int (x ||| y) :: st) (M)) : AW p l e R s m args below meth c D wd A0 nL cells slots Q (pc) (lo) (.int y :: .int x :: st) (M) := by
  intro H locs ls hP hS hL
  exact lv_ior B.1.1 B.1.2.1 hdg (k H locs ls hP hS hL)
theorem a_ixor {x y : Int32} (B : BS sk D cy wd A0 p s m args c own cc nL) (hdg : decode cc pc = .ok (.ixor, 1))  (k : AW p l e R s m args below meth c D wd A0 nL cells slots Q (pc + 1) (lo) (.int (x ^^^ y) :: st) (M)) : AW p l e R s m args below meth c D wd A0 nL cells slots Q (pc) (lo) (.int y :: .int x :: st) (M) := by
  intro H locs ls hP hS hL
  exact lv_ixor B.1.1 B.1.2.1 hdg (k H locs ls hP hS hL)
theorem a_ishl {x y : Int32} (B : BS sk D cy wd A0 p s m args c own cc nL) (hdg : decode cc pc = .ok (.ishl, 1))  (k : AW p l e R s m args below meth c D wd A0 nL cells slots Q (pc + 1) (lo) (.int (x <<< (y &&& 31)) :: st) (M)) : AW p l e R s m args below meth c D wd A0 nL cells slots Q (pc) (lo) (.int y :: .int x :: st) (M) := by
  intro H locs ls hP hS hL
  exact lv_ishl B.1.1 B.1.2.1 hdg (k H locs ls hP hS hL)
theorem a_ishr {x y : Int32} (B : BS sk D cy wd A0 p s m args c own cc nL) (hdg : decode cc pc = .ok (.ishr, 1))  (k : AW p l e R s m args below meth c D wd A0 nL cells slots Q (pc + 1) (lo) (.int (x >>> (y &&& 31)) :: st) (M)) : AW p l e R s m args below meth c D wd A0 nL cells slots Q (pc) (lo) (.int y :: .int x :: st) (M) := by
  intro H locs ls hP hS hL
  exact lv_ishr B.1.1 B.1.2.1 hdg (k H locs ls hP hS hL)
theorem a_idiv {x y : Int32} (B : BS sk D cy wd A0 p s m args c own cc nL) (hdg : decode cc pc = .ok (.idiv, 1)) (hne : ¬ y = 0) (k : AW p l e R s m args below meth c D wd A0 nL cells slots Q (pc + 1) (lo) (.int (x / y) :: st) (M)) : AW p l e R s m args below meth c D wd A0 nL cells slots Q (pc) (lo) (.int y :: .int x :: st) (M) := by
  intro H locs ls hP hS hL
  exact lv_idiv B.1.1 B.1.2.1 hdg hne (k H locs ls hP hS hL)
theorem a_irem {x y : Int32} (B : BS sk D cy wd A0 p s m args c own cc nL) (hdg : decode cc pc = .ok (.irem, 1)) (hne : ¬ y = 0) (k : AW p l e R s m args below meth c D wd A0 nL cells slots Q (pc + 1) (lo) (.int (x - x / y * y) :: st) (M)) : AW p l e R s m args below meth c D wd A0 nL cells slots Q (pc) (lo) (.int y :: .int x :: st) (M) := by
  intro H locs ls hP hS hL
  exact lv_irem B.1.1 B.1.2.1 hdg hne (k H locs ls hP hS hL)
theorem a_iushr {x y : Int32} (B : BS sk D cy wd A0 p s m args c own cc nL) (hdg : decode cc pc = .ok (.iushr, 1))  (k : AW p l e R s m args below meth c D wd A0 nL cells slots Q (pc + 1) (lo) (.int (x.toUInt32 >>> (y.toUInt32 &&& Int32.toUInt32 31)).toInt32 :: st) (M)) : AW p l e R s m args below meth c D wd A0 nL cells slots Q (pc) (lo) (.int y :: .int x :: st) (M) := by
  intro H locs ls hP hS hL
  exact lv_iushr B.1.1 B.1.2.1 hdg rfl (k H locs ls hP hS hL)
theorem a_ladd {x y : Int64} (B : BS sk D cy wd A0 p s m args c own cc nL) (hdg : decode cc pc = .ok (.ladd, 1))  (k : AW p l e R s m args below meth c D wd A0 nL cells slots Q (pc + 1) (lo) (.long (x + y) :: st) (M)) : AW p l e R s m args below meth c D wd A0 nL cells slots Q (pc) (lo) (.long y :: .long x :: st) (M) := by
  intro H locs ls hP hS hL
  exact lv_ladd B.1.1 B.1.2.1 hdg (k H locs ls hP hS hL)
theorem a_lsub {x y : Int64} (B : BS sk D cy wd A0 p s m args c own cc nL) (hdg : decode cc pc = .ok (.lsub, 1))  (k : AW p l e R s m args below meth c D wd A0 nL cells slots Q (pc + 1) (lo) (.long (x - y) :: st) (M)) : AW p l e R s m args below meth c D wd A0 nL cells slots Q (pc) (lo) (.long y :: .long x :: st) (M) := by
  intro H locs ls hP hS hL
  exact lv_lsub B.1.1 B.1.2.1 hdg (k H locs ls hP hS hL)
theorem a_lmul {x y : Int64} (B : BS sk D cy wd A0 p s m args c own cc nL) (hdg : decode cc pc = .ok (.lmul, 1))  (k : AW p l e R s m args below meth c D wd A0 nL cells slots Q (pc + 1) (lo) (.long (x * y) :: st) (M)) : AW p l e R s m args below meth c D wd A0 nL cells slots Q (pc) (lo) (.long y :: .long x :: st) (M) := by
  intro H locs ls hP hS hL
  exact lv_lmul B.1.1 B.1.2.1 hdg (k H locs ls hP hS hL)
theorem a_land {x y : Int64} (B : BS sk D cy wd A0 p s m args c own cc nL) (hdg : decode cc pc = .ok (.land, 1))  (k : AW p l e R s m args below meth c D wd A0 nL cells slots Q (pc + 1) (lo) (.long (x &&& y) :: st) (M)) : AW p l e R s m args below meth c D wd A0 nL cells slots Q (pc) (lo) (.long y :: .long x :: st) (M) := by
  intro H locs ls hP hS hL
  exact lv_land B.1.1 B.1.2.1 hdg (k H locs ls hP hS hL)
theorem a_lor {x y : Int64} (B : BS sk D cy wd A0 p s m args c own cc nL) (hdg : decode cc pc = .ok (.lor, 1))  (k : AW p l e R s m args below meth c D wd A0 nL cells slots Q (pc + 1) (lo) (.long (x ||| y) :: st) (M)) : AW p l e R s m args below meth c D wd A0 nL cells slots Q (pc) (lo) (.long y :: .long x :: st) (M) := by
  intro H locs ls hP hS hL
  exact lv_lor B.1.1 B.1.2.1 hdg (k H locs ls hP hS hL)
theorem a_lshl {x : Int64} {y : Int32} (B : BS sk D cy wd A0 p s m args c own cc nL) (hdg : decode cc pc = .ok (.lshl, 1))  (k : AW p l e R s m args below meth c D wd A0 nL cells slots Q (pc + 1) (lo) (.long (x <<< (y.toInt64 &&& 63)) :: st) (M)) : AW p l e R s m args below meth c D wd A0 nL cells slots Q (pc) (lo) (.int y :: .long x :: st) (M) := by
  intro H locs ls hP hS hL
  exact lv_lshl B.1.1 B.1.2.1 hdg rfl (k H locs ls hP hS hL)
theorem a_lshr {x : Int64} {y : Int32} (B : BS sk D cy wd A0 p s m args c own cc nL) (hdg : decode cc pc = .ok (.lshr, 1))  (k : AW p l e R s m args below meth c D wd A0 nL cells slots Q (pc + 1) (lo) (.long (x >>> (y.toInt64 &&& 63)) :: st) (M)) : AW p l e R s m args below meth c D wd A0 nL cells slots Q (pc) (lo) (.int y :: .long x :: st) (M) := by
  intro H locs ls hP hS hL
  exact lv_lshr B.1.1 B.1.2.1 hdg rfl (k H locs ls hP hS hL)
theorem a_lcmp {x y : Int64} (B : BS sk D cy wd A0 p s m args c own cc nL) (hdg : decode cc pc = .ok (.lcmp, 1))  (k : AW p l e R s m args below meth c D wd A0 nL cells slots Q (pc + 1) (lo) (.int (lg_cmp x y) :: st) (M)) : AW p l e R s m args below meth c D wd A0 nL cells slots Q (pc) (lo) (.long y :: .long x :: st) (M) := by
  intro H locs ls hP hS hL
  exact W.lcmp B.1.1 B.1.2.1 hdg (k H locs ls hP hS hL)
theorem a_i2l {x : Int32} (B : BS sk D cy wd A0 p s m args c own cc nL) (hdg : decode cc pc = .ok (.i2l, 1))  (k : AW p l e R s m args below meth c D wd A0 nL cells slots Q (pc + 1) (lo) (.long x.toInt64 :: st) (M)) : AW p l e R s m args below meth c D wd A0 nL cells slots Q (pc) (lo) (.int x :: st) (M) := by
  intro H locs ls hP hS hL
  exact lv_i2l B.1.1 B.1.2.1 hdg rfl (k H locs ls hP hS hL)
theorem a_l2i {x : Int64} (B : BS sk D cy wd A0 p s m args c own cc nL) (hdg : decode cc pc = .ok (.l2i, 1))  (k : AW p l e R s m args below meth c D wd A0 nL cells slots Q (pc + 1) (lo) (.int x.toInt32 :: st) (M)) : AW p l e R s m args below meth c D wd A0 nL cells slots Q (pc) (lo) (.long x :: st) (M) := by
  intro H locs ls hP hS hL
  exact lv_l2i B.1.1 B.1.2.1 hdg rfl (k H locs ls hP hS hL)
theorem a_i2b {x : Int32} (B : BS sk D cy wd A0 p s m args c own cc nL) (hdg : decode cc pc = .ok (.i2b, 1))  (k : AW p l e R s m args below meth c D wd A0 nL cells slots Q (pc + 1) (lo) (.int x.toInt8.toInt32 :: st) (M)) : AW p l e R s m args below meth c D wd A0 nL cells slots Q (pc) (lo) (.int x :: st) (M) := by
  intro H locs ls hP hS hL
  exact lv_i2b B.1.1 B.1.2.1 hdg rfl (k H locs ls hP hS hL)
theorem a_i2s {x : Int32} (B : BS sk D cy wd A0 p s m args c own cc nL) (hdg : decode cc pc = .ok (.i2s, 1))  (k : AW p l e R s m args below meth c D wd A0 nL cells slots Q (pc + 1) (lo) (.int x.toInt16.toInt32 :: st) (M)) : AW p l e R s m args below meth c D wd A0 nL cells slots Q (pc) (lo) (.int x :: st) (M) := by
  intro H locs ls hP hS hL
  exact lv_i2s B.1.1 B.1.2.1 hdg rfl (k H locs ls hP hS hL)
theorem a_i2c {x v : Int32} (B : BS sk D cy wd A0 p s m args c own cc nL) (hdg : decode cc pc = .ok (.i2c, 1)) (hv : (x.toUInt32 % 65536).toInt32 = v) (k : AW p l e R s m args below meth c D wd A0 nL cells slots Q (pc + 1) (lo) (.int v :: st) (M)) : AW p l e R s m args below meth c D wd A0 nL cells slots Q (pc) (lo) (.int x :: st) (M) := by
  intro H locs ls hP hS hL
  exact lv_i2c B.1.1 B.1.2.1 hdg hv (k H locs ls hP hS hL)
theorem a_dup {v : Value} (B : BS sk D cy wd A0 p s m args c own cc nL) (hdg : decode cc pc = .ok (.dup, 1)) (hv : v.category = 1) (k : AW p l e R s m args below meth c D wd A0 nL cells slots Q (pc + 1) (lo) (v :: v :: st) (M)) : AW p l e R s m args below meth c D wd A0 nL cells slots Q (pc) (lo) (v :: st) (M) := by
  intro H locs ls hP hS hL
  exact lv_dup B.1.1 B.1.2.1 hdg hv (k H locs ls hP hS hL)
theorem a_pop {v : Value} (B : BS sk D cy wd A0 p s m args c own cc nL) (hdg : decode cc pc = .ok (.pop, 1)) (hv : v.category = 1) (k : AW p l e R s m args below meth c D wd A0 nL cells slots Q (pc + 1) (lo) (st) (M)) : AW p l e R s m args below meth c D wd A0 nL cells slots Q (pc) (lo) (v :: st) (M) := by
  intro H locs ls hP hS hL
  exact lv_pop B.1.1 B.1.2.1 hdg hv (k H locs ls hP hS hL)
theorem a_dup2 {u v : Value} (B : BS sk D cy wd A0 p s m args c own cc nL) (hdg : decode cc pc = .ok (.dup2, 1)) (hv : u.category = 1) (hu : v.category = 1) (k : AW p l e R s m args below meth c D wd A0 nL cells slots Q (pc + 1) (lo) (u :: v :: u :: v :: st) (M)) : AW p l e R s m args below meth c D wd A0 nL cells slots Q (pc) (lo) (u :: v :: st) (M) := by
  intro H locs ls hP hS hL
  exact lv_dup2_11 B.1.1 B.1.2.1 hdg hv hu (k H locs ls hP hS hL)
theorem a_icmp_eq {x y : Int32} {off : Int} (tgt : Nat) (B : BS sk D cy wd A0 p s m args c own cc nL) (hdg : decode cc pc = .ok (.if_icmp .eq off, 3)) (ht : (pc : Int) + off = (tgt : Int)) (kt : x = y → AW p l e R s m args below meth c D wd A0 nL cells slots Q (tgt) (lo) (st) (M)) (kf : ¬ x = y → AW p l e R s m args below meth c D wd A0 nL cells slots Q (pc + 3) (lo) (st) (M)) : AW p l e R s m args below meth c D wd A0 nL cells slots Q (pc) (lo) (.int y :: .int x :: st) (M) := by
  intro H locs ls hP hS hL
  exact lv_icmp_eq B.1.1 B.1.2.1 hdg ht (fun q => kt q H locs ls hP hS hL) (fun q => kf q H locs ls hP hS hL)
theorem a_if_eq {x : Int32} {off : Int} (tgt : Nat) (B : BS sk D cy wd A0 p s m args c own cc nL) (hdg : decode cc pc = .ok (.ifCond .eq off, 3)) (ht : (pc : Int) + off = (tgt : Int)) (kt : x = 0 → AW p l e R s m args below meth c D wd A0 nL cells slots Q (tgt) (lo) (st) (M)) (kf : ¬ x = 0 → AW p l e R s m args below meth c D wd A0 nL cells slots Q (pc + 3) (lo) (st) (M)) : AW p l e R s m args below meth c D wd A0 nL cells slots Q (pc) (lo) (.int x :: st) (M) := by
  intro H locs ls hP hS hL
  exact lv_if_eq B.1.1 B.1.2.1 hdg ht (fun q => kt q H locs ls hP hS hL) (fun q => kf q H locs ls hP hS hL)
theorem a_icmp_ne {x y : Int32} {off : Int} (tgt : Nat) (B : BS sk D cy wd A0 p s m args c own cc nL) (hdg : decode cc pc = .ok (.if_icmp .ne off, 3)) (ht : (pc : Int) + off = (tgt : Int)) (kt : ¬ x = y → AW p l e R s m args below meth c D wd A0 nL cells slots Q (tgt) (lo) (st) (M)) (kf : x = y → AW p l e R s m args below meth c D wd A0 nL cells slots Q (pc + 3) (lo) (st) (M)) : AW p l e R s m args below meth c D wd A0 nL cells slots Q (pc) (lo) (.int y :: .int x :: st) (M) := by
  intro H locs ls hP hS hL
  exact lv_icmp_ne B.1.1 B.1.2.1 hdg ht (fun q => kt q H locs ls hP hS hL) (fun q => kf q H locs ls hP hS hL)
theorem a_if_ne {x : Int32} {off : Int} (tgt : Nat) (B : BS sk D cy wd A0 p s m args c own cc nL) (hdg : decode cc pc = .ok (.ifCond .ne off, 3)) (ht : (pc : Int) + off = (tgt : Int)) (kt : ¬ x = 0 → AW p l e R s m args below meth c D wd A0 nL cells slots Q (tgt) (lo) (st) (M)) (kf : x = 0 → AW p l e R s m args below meth c D wd A0 nL cells slots Q (pc + 3) (lo) (st) (M)) : AW p l e R s m args below meth c D wd A0 nL cells slots Q (pc) (lo) (.int x :: st) (M) := by
  intro H locs ls hP hS hL
  exact lv_if_ne B.1.1 B.1.2.1 hdg ht (fun q => kt q H locs ls hP hS hL) (fun q => kf q H locs ls hP hS hL)
theorem a_icmp_lt {x y : Int32} {off : Int} (tgt : Nat) (B : BS sk D cy wd A0 p s m args c own cc nL) (hdg : decode cc pc = .ok (.if_icmp .lt off, 3)) (ht : (pc : Int) + off = (tgt : Int)) (kt : x < y → AW p l e R s m args below meth c D wd A0 nL cells slots Q (tgt) (lo) (st) (M)) (kf : ¬ x < y → AW p l e R s m args below meth c D wd A0 nL cells slots Q (pc + 3) (lo) (st) (M)) : AW p l e R s m args below meth c D wd A0 nL cells slots Q (pc) (lo) (.int y :: .int x :: st) (M) := by
  intro H locs ls hP hS hL
  exact lv_icmp_lt B.1.1 B.1.2.1 hdg ht (fun q => kt q H locs ls hP hS hL) (fun q => kf q H locs ls hP hS hL)
theorem a_if_lt {x : Int32} {off : Int} (tgt : Nat) (B : BS sk D cy wd A0 p s m args c own cc nL) (hdg : decode cc pc = .ok (.ifCond .lt off, 3)) (ht : (pc : Int) + off = (tgt : Int)) (kt : x < 0 → AW p l e R s m args below meth c D wd A0 nL cells slots Q (tgt) (lo) (st) (M)) (kf : ¬ x < 0 → AW p l e R s m args below meth c D wd A0 nL cells slots Q (pc + 3) (lo) (st) (M)) : AW p l e R s m args below meth c D wd A0 nL cells slots Q (pc) (lo) (.int x :: st) (M) := by
  intro H locs ls hP hS hL
  exact lv_if_lt B.1.1 B.1.2.1 hdg ht (fun q => kt q H locs ls hP hS hL) (fun q => kf q H locs ls hP hS hL)
theorem a_icmp_ge {x y : Int32} {off : Int} (tgt : Nat) (B : BS sk D cy wd A0 p s m args c own cc nL) (hdg : decode cc pc = .ok (.if_icmp .ge off, 3)) (ht : (pc : Int) + off = (tgt : Int)) (kt : y ≤ x → AW p l e R s m args below meth c D wd A0 nL cells slots Q (tgt) (lo) (st) (M)) (kf : ¬ y ≤ x → AW p l e R s m args below meth c D wd A0 nL cells slots Q (pc + 3) (lo) (st) (M)) : AW p l e R s m args below meth c D wd A0 nL cells slots Q (pc) (lo) (.int y :: .int x :: st) (M) := by
  intro H locs ls hP hS hL
  exact lv_icmp_ge B.1.1 B.1.2.1 hdg ht (fun q => kt q H locs ls hP hS hL) (fun q => kf q H locs ls hP hS hL)
theorem a_if_ge {x : Int32} {off : Int} (tgt : Nat) (B : BS sk D cy wd A0 p s m args c own cc nL) (hdg : decode cc pc = .ok (.ifCond .ge off, 3)) (ht : (pc : Int) + off = (tgt : Int)) (kt : 0 ≤ x → AW p l e R s m args below meth c D wd A0 nL cells slots Q (tgt) (lo) (st) (M)) (kf : ¬ 0 ≤ x → AW p l e R s m args below meth c D wd A0 nL cells slots Q (pc + 3) (lo) (st) (M)) : AW p l e R s m args below meth c D wd A0 nL cells slots Q (pc) (lo) (.int x :: st) (M) := by
  intro H locs ls hP hS hL
  exact lv_if_ge B.1.1 B.1.2.1 hdg ht (fun q => kt q H locs ls hP hS hL) (fun q => kf q H locs ls hP hS hL)
theorem a_icmp_gt {x y : Int32} {off : Int} (tgt : Nat) (B : BS sk D cy wd A0 p s m args c own cc nL) (hdg : decode cc pc = .ok (.if_icmp .gt off, 3)) (ht : (pc : Int) + off = (tgt : Int)) (kt : y < x → AW p l e R s m args below meth c D wd A0 nL cells slots Q (tgt) (lo) (st) (M)) (kf : ¬ y < x → AW p l e R s m args below meth c D wd A0 nL cells slots Q (pc + 3) (lo) (st) (M)) : AW p l e R s m args below meth c D wd A0 nL cells slots Q (pc) (lo) (.int y :: .int x :: st) (M) := by
  intro H locs ls hP hS hL
  exact lv_icmp_gt B.1.1 B.1.2.1 hdg ht (fun q => kt q H locs ls hP hS hL) (fun q => kf q H locs ls hP hS hL)
theorem a_if_gt {x : Int32} {off : Int} (tgt : Nat) (B : BS sk D cy wd A0 p s m args c own cc nL) (hdg : decode cc pc = .ok (.ifCond .gt off, 3)) (ht : (pc : Int) + off = (tgt : Int)) (kt : 0 < x → AW p l e R s m args below meth c D wd A0 nL cells slots Q (tgt) (lo) (st) (M)) (kf : ¬ 0 < x → AW p l e R s m args below meth c D wd A0 nL cells slots Q (pc + 3) (lo) (st) (M)) : AW p l e R s m args below meth c D wd A0 nL cells slots Q (pc) (lo) (.int x :: st) (M) := by
  intro H locs ls hP hS hL
  exact lv_if_gt B.1.1 B.1.2.1 hdg ht (fun q => kt q H locs ls hP hS hL) (fun q => kf q H locs ls hP hS hL)
theorem a_icmp_le {x y : Int32} {off : Int} (tgt : Nat) (B : BS sk D cy wd A0 p s m args c own cc nL) (hdg : decode cc pc = .ok (.if_icmp .le off, 3)) (ht : (pc : Int) + off = (tgt : Int)) (kt : x ≤ y → AW p l e R s m args below meth c D wd A0 nL cells slots Q (tgt) (lo) (st) (M)) (kf : ¬ x ≤ y → AW p l e R s m args below meth c D wd A0 nL cells slots Q (pc + 3) (lo) (st) (M)) : AW p l e R s m args below meth c D wd A0 nL cells slots Q (pc) (lo) (.int y :: .int x :: st) (M) := by
  intro H locs ls hP hS hL
  exact lv_icmp_le B.1.1 B.1.2.1 hdg ht (fun q => kt q H locs ls hP hS hL) (fun q => kf q H locs ls hP hS hL)
theorem a_if_le {x : Int32} {off : Int} (tgt : Nat) (B : BS sk D cy wd A0 p s m args c own cc nL) (hdg : decode cc pc = .ok (.ifCond .le off, 3)) (ht : (pc : Int) + off = (tgt : Int)) (kt : x ≤ 0 → AW p l e R s m args below meth c D wd A0 nL cells slots Q (tgt) (lo) (st) (M)) (kf : ¬ x ≤ 0 → AW p l e R s m args below meth c D wd A0 nL cells slots Q (pc + 3) (lo) (st) (M)) : AW p l e R s m args below meth c D wd A0 nL cells slots Q (pc) (lo) (.int x :: st) (M) := by
  intro H locs ls hP hS hL
  exact lv_if_le B.1.1 B.1.2.1 hdg ht (fun q => kt q H locs ls hP hS hL) (fun q => kf q H locs ls hP hS hL)
theorem a_goto {off : Int} (tgt : Nat) (B : BS sk D cy wd A0 p s m args c own cc nL) (hdg : decode cc pc = .ok (.goto off, 3)) (ht : (pc : Int) + off = (tgt : Int)) (k : AW p l e R s m args below meth c D wd A0 nL cells slots Q (tgt) (lo) (st) (M)) : AW p l e R s m args below meth c D wd A0 nL cells slots Q (pc) (lo) (st) (M) := by
  intro H locs ls hP hS hL
  exact lv_goto B.1.1 B.1.2.1 hdg ht (k H locs ls hP hS hL)
theorem a_ifnonnull {x : Nat} {off : Int} (tgt : Nat) (B : BS sk D cy wd A0 p s m args c own cc nL) (hdg : decode cc pc = .ok (.ifnonnull off, 3)) (ht : (pc : Int) + off = (tgt : Int)) (k : AW p l e R s m args below meth c D wd A0 nL cells slots Q (tgt) (lo) (st) (M)) : AW p l e R s m args below meth c D wd A0 nL cells slots Q (pc) (lo) (.ref x :: st) (M) := by
  intro H locs ls hP hS hL
  exact lv_ifnonnull B.1.1 B.1.2.1 hdg ht (k H locs ls hP hS hL)
theorem a_ifnull {x : Nat} {off : Int} (B : BS sk D cy wd A0 p s m args c own cc nL) (hdg : decode cc pc = .ok (.ifnull off, 3)) (k : AW p l e R s m args below meth c D wd A0 nL cells slots Q (pc + 3) (lo) (st) (M)) : AW p l e R s m args below meth c D wd A0 nL cells slots Q (pc) (lo) (.ref x :: st) (M) := by
  intro H locs ls hP hS hL
  exact lv_ifnull B.1.1 B.1.2.1 hdg (k H locs ls hP hS hL)
theorem a_ifnullN {off : Int} (tgt : Nat) (B : BS sk D cy wd A0 p s m args c own cc nL) (hdg : decode cc pc = .ok (.ifnull off, 3)) (ht : (pc : Int) + off = (tgt : Int)) (k : AW p l e R s m args below meth c D wd A0 nL cells slots Q (tgt) (lo) (st) (M)) : AW p l e R s m args below meth c D wd A0 nL cells slots Q (pc) (lo) (.null :: st) (M) := by
  intro H locs ls hP hS hL
  exact lv_ifnullN B.1.1 B.1.2.1 hdg ht (k H locs ls hP hS hL)
theorem a_ifnonnullN {off : Int} (B : BS sk D cy wd A0 p s m args c own cc nL) (hdg : decode cc pc = .ok (.ifnonnull off, 3)) (k : AW p l e R s m args below meth c D wd A0 nL cells slots Q (pc + 3) (lo) (st) (M)) : AW p l e R s m args below meth c D wd A0 nL cells slots Q (pc) (lo) (.null :: st) (M) := by
  intro H locs ls hP hS hL
  exact lv_ifnonnullN B.1.1 B.1.2.1 hdg (k H locs ls hP hS hL)
theorem a_tblOut {dflt low high : Int} {offs : Array Int} {len : Nat} {x : Int32} (tgt : Nat) (B : BS sk D cy wd A0 p s m args c own cc nL) (hdg : decode cc pc = .ok (.tableswitch dflt low high offs, len)) (h : x.toInt < low ∨ high < x.toInt) (ht : (pc : Int) + dflt = (tgt : Int)) (k : AW p l e R s m args below meth c D wd A0 nL cells slots Q (tgt) (lo) (st) (M)) : AW p l e R s m args below meth c D wd A0 nL cells slots Q (pc) (lo) (.int x :: st) (M) := by
  intro H locs ls hP hS hL
  exact lv_tableOut B.1.1 B.1.2.1 hdg h ht (k H locs ls hP hS hL)
theorem a_tblIn {dflt low high : Int} {offs : Array Int} {len : Nat} {x : Int32} {off : Int} (tgt : Nat) (B : BS sk D cy wd A0 p s m args c own cc nL) (hdg : decode cc pc = .ok (.tableswitch dflt low high offs, len)) (h1 : ¬ x.toInt < low) (h2 : ¬ high < x.toInt) (ho : offs[(x.toInt - low).toNat]? = some off) (ht : (pc : Int) + off = (tgt : Int)) (k : AW p l e R s m args below meth c D wd A0 nL cells slots Q (tgt) (lo) (st) (M)) : AW p l e R s m args below meth c D wd A0 nL cells slots Q (pc) (lo) (.int x :: st) (M) := by
  intro H locs ls hP hS hL
  exact lv_tableIn B.1.1 B.1.2.1 hdg h1 h2 ho ht (k H locs ls hP hS hL)
theorem a_lookup {dflt : Int} {ps : Array (Int × Int)} {len : Nat} {x : Int32} {off : Int} (tgt : Nat) (B : BS sk D cy wd A0 p s m args c own cc nL) (hdg : decode cc pc = .ok (.lookupswitch dflt ps, len)) (hp : (ps.toList.zip (ps.toList.drop 1)).all (fun (a, next) => a.1 < next.1) = true) (ho : Op.lookupswitch.offset ps.toList dflt x.toInt = off) (ht : (pc : Int) + off = (tgt : Int)) (k : AW p l e R s m args below meth c D wd A0 nL cells slots Q (tgt) (lo) (st) (M)) : AW p l e R s m args below meth c D wd A0 nL cells slots Q (pc) (lo) (.int x :: st) (M) := by
  intro H locs ls hP hS hL
  exact lv_lookup B.1.1 B.1.2.1 hdg hp ho ht (k H locs ls hP hS hL)
end AWS
end
section
section AWP
variable {σ : Type} {p : Program} {l : Launch} {e : Env} {R : Room} {s : State} {m : MethodId} {args : Array Value} {below : List Frame} {meth : Method} {c : Code} {sk : (Nat → Nat) × (Nat → Nat)} {D : va_G} {cy : Nat → ClassId} {A0 : Nat → Prop} {own : String} {cc : ByteArray} {nL cells slots : Nat} {Q : State → Prop} {pc : Nat} {lo : List (Option Value)} {st : List Value} {wd : σ → va_W} {M : σ}

def c1 : Option Value → Bool
  | some v => v.category == 1
  | none => true
theorem hs_pos (pre r : List (Option Value)) (old : Option Value) (v : Value) (hc : ∀ u, pre.getLast? = some u → c1 u = true) : ∀ (i : Nat) (u : Value), (pre ++ some v :: r)[i]? = some (some u) → (i = pre.length ∧ u = v) ∨ (i ≠ pre.length ∧ (pre ++ old :: r)[i]? = some (some u) ∧ (i + 1 = pre.length → u.category = 1)) := by
  intro i u h
  by_cases hi : i < pre.length
  · rw [List.getElem?_append_left hi] at h
    refine Or.inr ⟨by omega, by rw [List.getElem?_append_left hi]; exact h, fun e1 => ?_⟩
    have h2 : pre.getLast? = some (some u) := by
      rw [List.getLast?_eq_getElem?, ← e1]
      exact h
    have := hc _ h2
    simpa [c1] using this
  · rw [List.getElem?_append_right (by omega)] at h
    by_cases hz : i - pre.length = 0
    · rw [hz, List.getElem?_cons_zero] at h
      cases h
      exact Or.inl ⟨by omega, rfl⟩
    · obtain ⟨k, hk⟩ : ∃ k, i - pre.length = k + 1 := ⟨i - pre.length - 1, by omega⟩
      rw [hk, List.getElem?_cons_succ] at h
      refine Or.inr ⟨by omega, ?_, fun e1 => by omega⟩
      rw [List.getElem?_append_right (by omega), hk, List.getElem?_cons_succ]
      exact h
theorem hs_posL (pre r : List (Option Value)) (o1 o2 : Option Value) (v : Value) (hc : ∀ u, pre.getLast? = some u → c1 u = true) : ∀ (i : Nat) (u : Value), (pre ++ some v :: none :: r)[i]? = some (some u) → (i = pre.length ∧ u = v) ∨ (i ≠ pre.length ∧ i ≠ pre.length + 1 ∧ (pre ++ o1 :: o2 :: r)[i]? = some (some u) ∧ (i + 1 = pre.length → u.category = 1)) := by
  intro i u h
  by_cases hi : i < pre.length
  · rw [List.getElem?_append_left hi] at h
    refine Or.inr ⟨by omega, by omega, by rw [List.getElem?_append_left hi]; exact h, fun e1 => ?_⟩
    have h2 : pre.getLast? = some (some u) := by
      rw [List.getLast?_eq_getElem?, ← e1]
      exact h
    have := hc _ h2
    simpa [c1] using this
  · rw [List.getElem?_append_right (by omega)] at h
    by_cases hz : i - pre.length = 0
    · rw [hz, List.getElem?_cons_zero] at h
      cases h
      exact Or.inl ⟨by omega, rfl⟩
    · by_cases hz1 : i - pre.length = 1
      · rw [hz1] at h
        simp at h
      · obtain ⟨k, hk⟩ : ∃ k, i - pre.length = k + 2 := ⟨i - pre.length - 2, by omega⟩
        rw [hk] at h
        refine Or.inr ⟨by omega, by omega, ?_, fun e1 => by omega⟩
        rw [List.getElem?_append_right (by omega), hk]
        simpa using h

theorem p_istore0  {o : Option Value} {r : List (Option Value)} {v : Int32} (B : BS sk D cy wd A0 p s m args c own cc nL) (hdg : decode cc pc = .ok (.istore_n 0, 1)) (hn : 0 < nL)  (k : AW p l e R s m args below meth c D wd A0 nL cells slots Q (pc + 1) (some (.int v) :: r) (st) (M)) : AW p l e R s m args below meth c D wd A0 nL cells slots Q (pc) (o :: r) (.int v :: st) (M) :=
  s_istore_n B hdg hn (hs_pos [] r o (.int v) (fun u h => by cases h)) k
theorem p_astore0  {o : Option Value} {r : List (Option Value)} {v : Nat} (B : BS sk D cy wd A0 p s m args c own cc nL) (hdg : decode cc pc = .ok (.astore_n 0, 1)) (hn : 0 < nL)  (k : AW p l e R s m args below meth c D wd A0 nL cells slots Q (pc + 1) (some (.ref v) :: r) (st) (M)) : AW p l e R s m args below meth c D wd A0 nL cells slots Q (pc) (o :: r) (.ref v :: st) (M) :=
  s_astore_n B hdg hn (hs_pos [] r o (.ref v) (fun u h => by cases h)) k
theorem p_astoreN0  {o : Option Value} {r : List (Option Value)}  (B : BS sk D cy wd A0 p s m args c own cc nL) (hdg : decode cc pc = .ok (.astore_n 0, 1)) (hn : 0 < nL)  (k : AW p l e R s m args below meth c D wd A0 nL cells slots Q (pc + 1) (some (.null) :: r) (st) (M)) : AW p l e R s m args below meth c D wd A0 nL cells slots Q (pc) (o :: r) (.null :: st) (M) :=
  s_astore_nN B hdg hn (hs_pos [] r o (.null) (fun u h => by cases h)) k
theorem p_lstore0  {o o2 : Option Value} {r : List (Option Value)} {v : Int64} (B : BS sk D cy wd A0 p s m args c own cc nL) (hdg : decode cc pc = .ok (.lstore_n 0, 1)) (hn : 0 + 1 < nL)  (k : AW p l e R s m args below meth c D wd A0 nL cells slots Q (pc + 1) (some (.long v) :: none :: r) (st) (M)) : AW p l e R s m args below meth c D wd A0 nL cells slots Q (pc) (o :: o2 :: r) (.long v :: st) (M) :=
  s_lstore_n B hdg hn (hs_posL [] r o o2 (.long v) (fun u h => by cases h)) k
theorem p_iinc0  {r : List (Option Value)} {x : Int32} {n : Int} (v : Int32) (B : BS sk D cy wd A0 p s m args c own cc nL) (hdg : decode cc pc = .ok (.iinc 0 n, 3)) (hn : 0 < nL) (hv : Int32.ofInt n = v)  (k : AW p l e R s m args below meth c D wd A0 nL cells slots Q (pc + 3) (some (.int (x + v)) :: r) (st) (M)) : AW p l e R s m args below meth c D wd A0 nL cells slots Q (pc) (some (.int x) :: r) (st) (M) :=
  s_iinc B hdg (by rfl) (by rw [hv]) hn (hs_pos [] r (some (.int x)) (.int (x + v)) (fun u h => by cases h)) k
theorem p_istore1 {x0 : Option Value} {o : Option Value} {r : List (Option Value)} {v : Int32} (B : BS sk D cy wd A0 p s m args c own cc nL) (hdg : decode cc pc = .ok (.istore_n 1, 1)) (hn : 1 < nL) (hc : c1 x0 = true := by rfl) (k : AW p l e R s m args below meth c D wd A0 nL cells slots Q (pc + 1) (x0 :: some (.int v) :: r) (st) (M)) : AW p l e R s m args below meth c D wd A0 nL cells slots Q (pc) (x0 :: o :: r) (.int v :: st) (M) :=
  s_istore_n B hdg hn (hs_pos [x0] r o (.int v) (fun u h => by cases h; exact hc)) k
theorem p_astore1 {x0 : Option Value} {o : Option Value} {r : List (Option Value)} {v : Nat} (B : BS sk D cy wd A0 p s m args c own cc nL) (hdg : decode cc pc = .ok (.astore_n 1, 1)) (hn : 1 < nL) (hc : c1 x0 = true := by rfl) (k : AW p l e R s m args below meth c D wd A0 nL cells slots Q (pc + 1) (x0 :: some (.ref v) :: r) (st) (M)) : AW p l e R s m args below meth c D wd A0 nL cells slots Q (pc) (x0 :: o :: r) (.ref v :: st) (M) :=
  s_astore_n B hdg hn (hs_pos [x0] r o (.ref v) (fun u h => by cases h; exact hc)) k
theorem p_astoreN1 {x0 : Option Value} {o : Option Value} {r : List (Option Value)}  (B : BS sk D cy wd A0 p s m args c own cc nL) (hdg : decode cc pc = .ok (.astore_n 1, 1)) (hn : 1 < nL) (hc : c1 x0 = true := by rfl) (k : AW p l e R s m args below meth c D wd A0 nL cells slots Q (pc + 1) (x0 :: some (.null) :: r) (st) (M)) : AW p l e R s m args below meth c D wd A0 nL cells slots Q (pc) (x0 :: o :: r) (.null :: st) (M) :=
  s_astore_nN B hdg hn (hs_pos [x0] r o (.null) (fun u h => by cases h; exact hc)) k
theorem p_lstore1 {x0 : Option Value} {o o2 : Option Value} {r : List (Option Value)} {v : Int64} (B : BS sk D cy wd A0 p s m args c own cc nL) (hdg : decode cc pc = .ok (.lstore_n 1, 1)) (hn : 1 + 1 < nL) (hc : c1 x0 = true := by rfl) (k : AW p l e R s m args below meth c D wd A0 nL cells slots Q (pc + 1) (x0 :: some (.long v) :: none :: r) (st) (M)) : AW p l e R s m args below meth c D wd A0 nL cells slots Q (pc) (x0 :: o :: o2 :: r) (.long v :: st) (M) :=
  s_lstore_n B hdg hn (hs_posL [x0] r o o2 (.long v) (fun u h => by cases h; exact hc)) k
theorem p_iinc1 {x0 : Option Value} {r : List (Option Value)} {x : Int32} {n : Int} (v : Int32) (B : BS sk D cy wd A0 p s m args c own cc nL) (hdg : decode cc pc = .ok (.iinc 1 n, 3)) (hn : 1 < nL) (hv : Int32.ofInt n = v) (hc : c1 x0 = true := by rfl) (k : AW p l e R s m args below meth c D wd A0 nL cells slots Q (pc + 3) (x0 :: some (.int (x + v)) :: r) (st) (M)) : AW p l e R s m args below meth c D wd A0 nL cells slots Q (pc) (x0 :: some (.int x) :: r) (st) (M) :=
  s_iinc B hdg (by rfl) (by rw [hv]) hn (hs_pos [x0] r (some (.int x)) (.int (x + v)) (fun u h => by cases h; exact hc)) k
theorem p_istore2 {x0 : Option Value} {x1 : Option Value} {o : Option Value} {r : List (Option Value)} {v : Int32} (B : BS sk D cy wd A0 p s m args c own cc nL) (hdg : decode cc pc = .ok (.istore_n 2, 1)) (hn : 2 < nL) (hc : c1 x1 = true := by rfl) (k : AW p l e R s m args below meth c D wd A0 nL cells slots Q (pc + 1) (x0 :: x1 :: some (.int v) :: r) (st) (M)) : AW p l e R s m args below meth c D wd A0 nL cells slots Q (pc) (x0 :: x1 :: o :: r) (.int v :: st) (M) :=
  s_istore_n B hdg hn (hs_pos [x0, x1] r o (.int v) (fun u h => by cases h; exact hc)) k
theorem p_astore2 {x0 : Option Value} {x1 : Option Value} {o : Option Value} {r : List (Option Value)} {v : Nat} (B : BS sk D cy wd A0 p s m args c own cc nL) (hdg : decode cc pc = .ok (.astore_n 2, 1)) (hn : 2 < nL) (hc : c1 x1 = true := by rfl) (k : AW p l e R s m args below meth c D wd A0 nL cells slots Q (pc + 1) (x0 :: x1 :: some (.ref v) :: r) (st) (M)) : AW p l e R s m args below meth c D wd A0 nL cells slots Q (pc) (x0 :: x1 :: o :: r) (.ref v :: st) (M) :=
  s_astore_n B hdg hn (hs_pos [x0, x1] r o (.ref v) (fun u h => by cases h; exact hc)) k
theorem p_astoreN2 {x0 : Option Value} {x1 : Option Value} {o : Option Value} {r : List (Option Value)}  (B : BS sk D cy wd A0 p s m args c own cc nL) (hdg : decode cc pc = .ok (.astore_n 2, 1)) (hn : 2 < nL) (hc : c1 x1 = true := by rfl) (k : AW p l e R s m args below meth c D wd A0 nL cells slots Q (pc + 1) (x0 :: x1 :: some (.null) :: r) (st) (M)) : AW p l e R s m args below meth c D wd A0 nL cells slots Q (pc) (x0 :: x1 :: o :: r) (.null :: st) (M) :=
  s_astore_nN B hdg hn (hs_pos [x0, x1] r o (.null) (fun u h => by cases h; exact hc)) k
theorem p_lstore2 {x0 : Option Value} {x1 : Option Value} {o o2 : Option Value} {r : List (Option Value)} {v : Int64} (B : BS sk D cy wd A0 p s m args c own cc nL) (hdg : decode cc pc = .ok (.lstore_n 2, 1)) (hn : 2 + 1 < nL) (hc : c1 x1 = true := by rfl) (k : AW p l e R s m args below meth c D wd A0 nL cells slots Q (pc + 1) (x0 :: x1 :: some (.long v) :: none :: r) (st) (M)) : AW p l e R s m args below meth c D wd A0 nL cells slots Q (pc) (x0 :: x1 :: o :: o2 :: r) (.long v :: st) (M) :=
  s_lstore_n B hdg hn (hs_posL [x0, x1] r o o2 (.long v) (fun u h => by cases h; exact hc)) k
theorem p_iinc2 {x0 : Option Value} {x1 : Option Value} {r : List (Option Value)} {x : Int32} {n : Int} (v : Int32) (B : BS sk D cy wd A0 p s m args c own cc nL) (hdg : decode cc pc = .ok (.iinc 2 n, 3)) (hn : 2 < nL) (hv : Int32.ofInt n = v) (hc : c1 x1 = true := by rfl) (k : AW p l e R s m args below meth c D wd A0 nL cells slots Q (pc + 3) (x0 :: x1 :: some (.int (x + v)) :: r) (st) (M)) : AW p l e R s m args below meth c D wd A0 nL cells slots Q (pc) (x0 :: x1 :: some (.int x) :: r) (st) (M) :=
  s_iinc B hdg (by rfl) (by rw [hv]) hn (hs_pos [x0, x1] r (some (.int x)) (.int (x + v)) (fun u h => by cases h; exact hc)) k
theorem p_istore3 {x0 : Option Value} {x1 : Option Value} {x2 : Option Value} {o : Option Value} {r : List (Option Value)} {v : Int32} (B : BS sk D cy wd A0 p s m args c own cc nL) (hdg : decode cc pc = .ok (.istore_n 3, 1)) (hn : 3 < nL) (hc : c1 x2 = true := by rfl) (k : AW p l e R s m args below meth c D wd A0 nL cells slots Q (pc + 1) (x0 :: x1 :: x2 :: some (.int v) :: r) (st) (M)) : AW p l e R s m args below meth c D wd A0 nL cells slots Q (pc) (x0 :: x1 :: x2 :: o :: r) (.int v :: st) (M) :=
  s_istore_n B hdg hn (hs_pos [x0, x1, x2] r o (.int v) (fun u h => by cases h; exact hc)) k
theorem p_astore3 {x0 : Option Value} {x1 : Option Value} {x2 : Option Value} {o : Option Value} {r : List (Option Value)} {v : Nat} (B : BS sk D cy wd A0 p s m args c own cc nL) (hdg : decode cc pc = .ok (.astore_n 3, 1)) (hn : 3 < nL) (hc : c1 x2 = true := by rfl) (k : AW p l e R s m args below meth c D wd A0 nL cells slots Q (pc + 1) (x0 :: x1 :: x2 :: some (.ref v) :: r) (st) (M)) : AW p l e R s m args below meth c D wd A0 nL cells slots Q (pc) (x0 :: x1 :: x2 :: o :: r) (.ref v :: st) (M) :=
  s_astore_n B hdg hn (hs_pos [x0, x1, x2] r o (.ref v) (fun u h => by cases h; exact hc)) k
theorem p_astoreN3 {x0 : Option Value} {x1 : Option Value} {x2 : Option Value} {o : Option Value} {r : List (Option Value)}  (B : BS sk D cy wd A0 p s m args c own cc nL) (hdg : decode cc pc = .ok (.astore_n 3, 1)) (hn : 3 < nL) (hc : c1 x2 = true := by rfl) (k : AW p l e R s m args below meth c D wd A0 nL cells slots Q (pc + 1) (x0 :: x1 :: x2 :: some (.null) :: r) (st) (M)) : AW p l e R s m args below meth c D wd A0 nL cells slots Q (pc) (x0 :: x1 :: x2 :: o :: r) (.null :: st) (M) :=
  s_astore_nN B hdg hn (hs_pos [x0, x1, x2] r o (.null) (fun u h => by cases h; exact hc)) k
theorem p_lstore3 {x0 : Option Value} {x1 : Option Value} {x2 : Option Value} {o o2 : Option Value} {r : List (Option Value)} {v : Int64} (B : BS sk D cy wd A0 p s m args c own cc nL) (hdg : decode cc pc = .ok (.lstore_n 3, 1)) (hn : 3 + 1 < nL) (hc : c1 x2 = true := by rfl) (k : AW p l e R s m args below meth c D wd A0 nL cells slots Q (pc + 1) (x0 :: x1 :: x2 :: some (.long v) :: none :: r) (st) (M)) : AW p l e R s m args below meth c D wd A0 nL cells slots Q (pc) (x0 :: x1 :: x2 :: o :: o2 :: r) (.long v :: st) (M) :=
  s_lstore_n B hdg hn (hs_posL [x0, x1, x2] r o o2 (.long v) (fun u h => by cases h; exact hc)) k
theorem p_iinc3 {x0 : Option Value} {x1 : Option Value} {x2 : Option Value} {r : List (Option Value)} {x : Int32} {n : Int} (v : Int32) (B : BS sk D cy wd A0 p s m args c own cc nL) (hdg : decode cc pc = .ok (.iinc 3 n, 3)) (hn : 3 < nL) (hv : Int32.ofInt n = v) (hc : c1 x2 = true := by rfl) (k : AW p l e R s m args below meth c D wd A0 nL cells slots Q (pc + 3) (x0 :: x1 :: x2 :: some (.int (x + v)) :: r) (st) (M)) : AW p l e R s m args below meth c D wd A0 nL cells slots Q (pc) (x0 :: x1 :: x2 :: some (.int x) :: r) (st) (M) :=
  s_iinc B hdg (by rfl) (by rw [hv]) hn (hs_pos [x0, x1, x2] r (some (.int x)) (.int (x + v)) (fun u h => by cases h; exact hc)) k
theorem p_istore4 {x0 : Option Value} {x1 : Option Value} {x2 : Option Value} {x3 : Option Value} {o : Option Value} {r : List (Option Value)} {v : Int32} (B : BS sk D cy wd A0 p s m args c own cc nL) (hdg : decode cc pc = .ok (.istore 4, 2)) (hn : 4 < nL) (hc : c1 x3 = true := by rfl) (k : AW p l e R s m args below meth c D wd A0 nL cells slots Q (pc + 2) (x0 :: x1 :: x2 :: x3 :: some (.int v) :: r) (st) (M)) : AW p l e R s m args below meth c D wd A0 nL cells slots Q (pc) (x0 :: x1 :: x2 :: x3 :: o :: r) (.int v :: st) (M) :=
  s_istore B hdg hn (hs_pos [x0, x1, x2, x3] r o (.int v) (fun u h => by cases h; exact hc)) k
theorem p_astore4 {x0 : Option Value} {x1 : Option Value} {x2 : Option Value} {x3 : Option Value} {o : Option Value} {r : List (Option Value)} {v : Nat} (B : BS sk D cy wd A0 p s m args c own cc nL) (hdg : decode cc pc = .ok (.astore 4, 2)) (hn : 4 < nL) (hc : c1 x3 = true := by rfl) (k : AW p l e R s m args below meth c D wd A0 nL cells slots Q (pc + 2) (x0 :: x1 :: x2 :: x3 :: some (.ref v) :: r) (st) (M)) : AW p l e R s m args below meth c D wd A0 nL cells slots Q (pc) (x0 :: x1 :: x2 :: x3 :: o :: r) (.ref v :: st) (M) :=
  s_astore B hdg hn (hs_pos [x0, x1, x2, x3] r o (.ref v) (fun u h => by cases h; exact hc)) k
theorem p_astoreN4 {x0 : Option Value} {x1 : Option Value} {x2 : Option Value} {x3 : Option Value} {o : Option Value} {r : List (Option Value)}  (B : BS sk D cy wd A0 p s m args c own cc nL) (hdg : decode cc pc = .ok (.astore 4, 2)) (hn : 4 < nL) (hc : c1 x3 = true := by rfl) (k : AW p l e R s m args below meth c D wd A0 nL cells slots Q (pc + 2) (x0 :: x1 :: x2 :: x3 :: some (.null) :: r) (st) (M)) : AW p l e R s m args below meth c D wd A0 nL cells slots Q (pc) (x0 :: x1 :: x2 :: x3 :: o :: r) (.null :: st) (M) :=
  s_astoreN B hdg hn (hs_pos [x0, x1, x2, x3] r o (.null) (fun u h => by cases h; exact hc)) k
theorem p_lstore4 {x0 : Option Value} {x1 : Option Value} {x2 : Option Value} {x3 : Option Value} {o o2 : Option Value} {r : List (Option Value)} {v : Int64} (B : BS sk D cy wd A0 p s m args c own cc nL) (hdg : decode cc pc = .ok (.lstore 4, 2)) (hn : 4 + 1 < nL) (hc : c1 x3 = true := by rfl) (k : AW p l e R s m args below meth c D wd A0 nL cells slots Q (pc + 2) (x0 :: x1 :: x2 :: x3 :: some (.long v) :: none :: r) (st) (M)) : AW p l e R s m args below meth c D wd A0 nL cells slots Q (pc) (x0 :: x1 :: x2 :: x3 :: o :: o2 :: r) (.long v :: st) (M) :=
  s_lstore B hdg hn (hs_posL [x0, x1, x2, x3] r o o2 (.long v) (fun u h => by cases h; exact hc)) k
theorem p_iinc4 {x0 : Option Value} {x1 : Option Value} {x2 : Option Value} {x3 : Option Value} {r : List (Option Value)} {x : Int32} {n : Int} (v : Int32) (B : BS sk D cy wd A0 p s m args c own cc nL) (hdg : decode cc pc = .ok (.iinc 4 n, 3)) (hn : 4 < nL) (hv : Int32.ofInt n = v) (hc : c1 x3 = true := by rfl) (k : AW p l e R s m args below meth c D wd A0 nL cells slots Q (pc + 3) (x0 :: x1 :: x2 :: x3 :: some (.int (x + v)) :: r) (st) (M)) : AW p l e R s m args below meth c D wd A0 nL cells slots Q (pc) (x0 :: x1 :: x2 :: x3 :: some (.int x) :: r) (st) (M) :=
  s_iinc B hdg (by rfl) (by rw [hv]) hn (hs_pos [x0, x1, x2, x3] r (some (.int x)) (.int (x + v)) (fun u h => by cases h; exact hc)) k
theorem p_istore5 {x0 : Option Value} {x1 : Option Value} {x2 : Option Value} {x3 : Option Value} {x4 : Option Value} {o : Option Value} {r : List (Option Value)} {v : Int32} (B : BS sk D cy wd A0 p s m args c own cc nL) (hdg : decode cc pc = .ok (.istore 5, 2)) (hn : 5 < nL) (hc : c1 x4 = true := by rfl) (k : AW p l e R s m args below meth c D wd A0 nL cells slots Q (pc + 2) (x0 :: x1 :: x2 :: x3 :: x4 :: some (.int v) :: r) (st) (M)) : AW p l e R s m args below meth c D wd A0 nL cells slots Q (pc) (x0 :: x1 :: x2 :: x3 :: x4 :: o :: r) (.int v :: st) (M) :=
  s_istore B hdg hn (hs_pos [x0, x1, x2, x3, x4] r o (.int v) (fun u h => by cases h; exact hc)) k
theorem p_astore5 {x0 : Option Value} {x1 : Option Value} {x2 : Option Value} {x3 : Option Value} {x4 : Option Value} {o : Option Value} {r : List (Option Value)} {v : Nat} (B : BS sk D cy wd A0 p s m args c own cc nL) (hdg : decode cc pc = .ok (.astore 5, 2)) (hn : 5 < nL) (hc : c1 x4 = true := by rfl) (k : AW p l e R s m args below meth c D wd A0 nL cells slots Q (pc + 2) (x0 :: x1 :: x2 :: x3 :: x4 :: some (.ref v) :: r) (st) (M)) : AW p l e R s m args below meth c D wd A0 nL cells slots Q (pc) (x0 :: x1 :: x2 :: x3 :: x4 :: o :: r) (.ref v :: st) (M) :=
  s_astore B hdg hn (hs_pos [x0, x1, x2, x3, x4] r o (.ref v) (fun u h => by cases h; exact hc)) k
theorem p_astoreN5 {x0 : Option Value} {x1 : Option Value} {x2 : Option Value} {x3 : Option Value} {x4 : Option Value} {o : Option Value} {r : List (Option Value)}  (B : BS sk D cy wd A0 p s m args c own cc nL) (hdg : decode cc pc = .ok (.astore 5, 2)) (hn : 5 < nL) (hc : c1 x4 = true := by rfl) (k : AW p l e R s m args below meth c D wd A0 nL cells slots Q (pc + 2) (x0 :: x1 :: x2 :: x3 :: x4 :: some (.null) :: r) (st) (M)) : AW p l e R s m args below meth c D wd A0 nL cells slots Q (pc) (x0 :: x1 :: x2 :: x3 :: x4 :: o :: r) (.null :: st) (M) :=
  s_astoreN B hdg hn (hs_pos [x0, x1, x2, x3, x4] r o (.null) (fun u h => by cases h; exact hc)) k
theorem p_lstore5 {x0 : Option Value} {x1 : Option Value} {x2 : Option Value} {x3 : Option Value} {x4 : Option Value} {o o2 : Option Value} {r : List (Option Value)} {v : Int64} (B : BS sk D cy wd A0 p s m args c own cc nL) (hdg : decode cc pc = .ok (.lstore 5, 2)) (hn : 5 + 1 < nL) (hc : c1 x4 = true := by rfl) (k : AW p l e R s m args below meth c D wd A0 nL cells slots Q (pc + 2) (x0 :: x1 :: x2 :: x3 :: x4 :: some (.long v) :: none :: r) (st) (M)) : AW p l e R s m args below meth c D wd A0 nL cells slots Q (pc) (x0 :: x1 :: x2 :: x3 :: x4 :: o :: o2 :: r) (.long v :: st) (M) :=
  s_lstore B hdg hn (hs_posL [x0, x1, x2, x3, x4] r o o2 (.long v) (fun u h => by cases h; exact hc)) k
theorem p_iinc5 {x0 : Option Value} {x1 : Option Value} {x2 : Option Value} {x3 : Option Value} {x4 : Option Value} {r : List (Option Value)} {x : Int32} {n : Int} (v : Int32) (B : BS sk D cy wd A0 p s m args c own cc nL) (hdg : decode cc pc = .ok (.iinc 5 n, 3)) (hn : 5 < nL) (hv : Int32.ofInt n = v) (hc : c1 x4 = true := by rfl) (k : AW p l e R s m args below meth c D wd A0 nL cells slots Q (pc + 3) (x0 :: x1 :: x2 :: x3 :: x4 :: some (.int (x + v)) :: r) (st) (M)) : AW p l e R s m args below meth c D wd A0 nL cells slots Q (pc) (x0 :: x1 :: x2 :: x3 :: x4 :: some (.int x) :: r) (st) (M) :=
  s_iinc B hdg (by rfl) (by rw [hv]) hn (hs_pos [x0, x1, x2, x3, x4] r (some (.int x)) (.int (x + v)) (fun u h => by cases h; exact hc)) k
theorem p_istore6 {x0 : Option Value} {x1 : Option Value} {x2 : Option Value} {x3 : Option Value} {x4 : Option Value} {x5 : Option Value} {o : Option Value} {r : List (Option Value)} {v : Int32} (B : BS sk D cy wd A0 p s m args c own cc nL) (hdg : decode cc pc = .ok (.istore 6, 2)) (hn : 6 < nL) (hc : c1 x5 = true := by rfl) (k : AW p l e R s m args below meth c D wd A0 nL cells slots Q (pc + 2) (x0 :: x1 :: x2 :: x3 :: x4 :: x5 :: some (.int v) :: r) (st) (M)) : AW p l e R s m args below meth c D wd A0 nL cells slots Q (pc) (x0 :: x1 :: x2 :: x3 :: x4 :: x5 :: o :: r) (.int v :: st) (M) :=
  s_istore B hdg hn (hs_pos [x0, x1, x2, x3, x4, x5] r o (.int v) (fun u h => by cases h; exact hc)) k
theorem p_astore6 {x0 : Option Value} {x1 : Option Value} {x2 : Option Value} {x3 : Option Value} {x4 : Option Value} {x5 : Option Value} {o : Option Value} {r : List (Option Value)} {v : Nat} (B : BS sk D cy wd A0 p s m args c own cc nL) (hdg : decode cc pc = .ok (.astore 6, 2)) (hn : 6 < nL) (hc : c1 x5 = true := by rfl) (k : AW p l e R s m args below meth c D wd A0 nL cells slots Q (pc + 2) (x0 :: x1 :: x2 :: x3 :: x4 :: x5 :: some (.ref v) :: r) (st) (M)) : AW p l e R s m args below meth c D wd A0 nL cells slots Q (pc) (x0 :: x1 :: x2 :: x3 :: x4 :: x5 :: o :: r) (.ref v :: st) (M) :=
  s_astore B hdg hn (hs_pos [x0, x1, x2, x3, x4, x5] r o (.ref v) (fun u h => by cases h; exact hc)) k
theorem p_astoreN6 {x0 : Option Value} {x1 : Option Value} {x2 : Option Value} {x3 : Option Value} {x4 : Option Value} {x5 : Option Value} {o : Option Value} {r : List (Option Value)}  (B : BS sk D cy wd A0 p s m args c own cc nL) (hdg : decode cc pc = .ok (.astore 6, 2)) (hn : 6 < nL) (hc : c1 x5 = true := by rfl) (k : AW p l e R s m args below meth c D wd A0 nL cells slots Q (pc + 2) (x0 :: x1 :: x2 :: x3 :: x4 :: x5 :: some (.null) :: r) (st) (M)) : AW p l e R s m args below meth c D wd A0 nL cells slots Q (pc) (x0 :: x1 :: x2 :: x3 :: x4 :: x5 :: o :: r) (.null :: st) (M) :=
  s_astoreN B hdg hn (hs_pos [x0, x1, x2, x3, x4, x5] r o (.null) (fun u h => by cases h; exact hc)) k
theorem p_lstore6 {x0 : Option Value} {x1 : Option Value} {x2 : Option Value} {x3 : Option Value} {x4 : Option Value} {x5 : Option Value} {o o2 : Option Value} {r : List (Option Value)} {v : Int64} (B : BS sk D cy wd A0 p s m args c own cc nL) (hdg : decode cc pc = .ok (.lstore 6, 2)) (hn : 6 + 1 < nL) (hc : c1 x5 = true := by rfl) (k : AW p l e R s m args below meth c D wd A0 nL cells slots Q (pc + 2) (x0 :: x1 :: x2 :: x3 :: x4 :: x5 :: some (.long v) :: none :: r) (st) (M)) : AW p l e R s m args below meth c D wd A0 nL cells slots Q (pc) (x0 :: x1 :: x2 :: x3 :: x4 :: x5 :: o :: o2 :: r) (.long v :: st) (M) :=
  s_lstore B hdg hn (hs_posL [x0, x1, x2, x3, x4, x5] r o o2 (.long v) (fun u h => by cases h; exact hc)) k
theorem p_iinc6 {x0 : Option Value} {x1 : Option Value} {x2 : Option Value} {x3 : Option Value} {x4 : Option Value} {x5 : Option Value} {r : List (Option Value)} {x : Int32} {n : Int} (v : Int32) (B : BS sk D cy wd A0 p s m args c own cc nL) (hdg : decode cc pc = .ok (.iinc 6 n, 3)) (hn : 6 < nL) (hv : Int32.ofInt n = v) (hc : c1 x5 = true := by rfl) (k : AW p l e R s m args below meth c D wd A0 nL cells slots Q (pc + 3) (x0 :: x1 :: x2 :: x3 :: x4 :: x5 :: some (.int (x + v)) :: r) (st) (M)) : AW p l e R s m args below meth c D wd A0 nL cells slots Q (pc) (x0 :: x1 :: x2 :: x3 :: x4 :: x5 :: some (.int x) :: r) (st) (M) :=
  s_iinc B hdg (by rfl) (by rw [hv]) hn (hs_pos [x0, x1, x2, x3, x4, x5] r (some (.int x)) (.int (x + v)) (fun u h => by cases h; exact hc)) k
theorem p_istore7 {x0 : Option Value} {x1 : Option Value} {x2 : Option Value} {x3 : Option Value} {x4 : Option Value} {x5 : Option Value} {x6 : Option Value} {o : Option Value} {r : List (Option Value)} {v : Int32} (B : BS sk D cy wd A0 p s m args c own cc nL) (hdg : decode cc pc = .ok (.istore 7, 2)) (hn : 7 < nL) (hc : c1 x6 = true := by rfl) (k : AW p l e R s m args below meth c D wd A0 nL cells slots Q (pc + 2) (x0 :: x1 :: x2 :: x3 :: x4 :: x5 :: x6 :: some (.int v) :: r) (st) (M)) : AW p l e R s m args below meth c D wd A0 nL cells slots Q (pc) (x0 :: x1 :: x2 :: x3 :: x4 :: x5 :: x6 :: o :: r) (.int v :: st) (M) :=
  s_istore B hdg hn (hs_pos [x0, x1, x2, x3, x4, x5, x6] r o (.int v) (fun u h => by cases h; exact hc)) k
theorem p_astore7 {x0 : Option Value} {x1 : Option Value} {x2 : Option Value} {x3 : Option Value} {x4 : Option Value} {x5 : Option Value} {x6 : Option Value} {o : Option Value} {r : List (Option Value)} {v : Nat} (B : BS sk D cy wd A0 p s m args c own cc nL) (hdg : decode cc pc = .ok (.astore 7, 2)) (hn : 7 < nL) (hc : c1 x6 = true := by rfl) (k : AW p l e R s m args below meth c D wd A0 nL cells slots Q (pc + 2) (x0 :: x1 :: x2 :: x3 :: x4 :: x5 :: x6 :: some (.ref v) :: r) (st) (M)) : AW p l e R s m args below meth c D wd A0 nL cells slots Q (pc) (x0 :: x1 :: x2 :: x3 :: x4 :: x5 :: x6 :: o :: r) (.ref v :: st) (M) :=
  s_astore B hdg hn (hs_pos [x0, x1, x2, x3, x4, x5, x6] r o (.ref v) (fun u h => by cases h; exact hc)) k
theorem p_astoreN7 {x0 : Option Value} {x1 : Option Value} {x2 : Option Value} {x3 : Option Value} {x4 : Option Value} {x5 : Option Value} {x6 : Option Value} {o : Option Value} {r : List (Option Value)}  (B : BS sk D cy wd A0 p s m args c own cc nL) (hdg : decode cc pc = .ok (.astore 7, 2)) (hn : 7 < nL) (hc : c1 x6 = true := by rfl) (k : AW p l e R s m args below meth c D wd A0 nL cells slots Q (pc + 2) (x0 :: x1 :: x2 :: x3 :: x4 :: x5 :: x6 :: some (.null) :: r) (st) (M)) : AW p l e R s m args below meth c D wd A0 nL cells slots Q (pc) (x0 :: x1 :: x2 :: x3 :: x4 :: x5 :: x6 :: o :: r) (.null :: st) (M) :=
  s_astoreN B hdg hn (hs_pos [x0, x1, x2, x3, x4, x5, x6] r o (.null) (fun u h => by cases h; exact hc)) k
theorem p_lstore7 {x0 : Option Value} {x1 : Option Value} {x2 : Option Value} {x3 : Option Value} {x4 : Option Value} {x5 : Option Value} {x6 : Option Value} {o o2 : Option Value} {r : List (Option Value)} {v : Int64} (B : BS sk D cy wd A0 p s m args c own cc nL) (hdg : decode cc pc = .ok (.lstore 7, 2)) (hn : 7 + 1 < nL) (hc : c1 x6 = true := by rfl) (k : AW p l e R s m args below meth c D wd A0 nL cells slots Q (pc + 2) (x0 :: x1 :: x2 :: x3 :: x4 :: x5 :: x6 :: some (.long v) :: none :: r) (st) (M)) : AW p l e R s m args below meth c D wd A0 nL cells slots Q (pc) (x0 :: x1 :: x2 :: x3 :: x4 :: x5 :: x6 :: o :: o2 :: r) (.long v :: st) (M) :=
  s_lstore B hdg hn (hs_posL [x0, x1, x2, x3, x4, x5, x6] r o o2 (.long v) (fun u h => by cases h; exact hc)) k
theorem p_iinc7 {x0 : Option Value} {x1 : Option Value} {x2 : Option Value} {x3 : Option Value} {x4 : Option Value} {x5 : Option Value} {x6 : Option Value} {r : List (Option Value)} {x : Int32} {n : Int} (v : Int32) (B : BS sk D cy wd A0 p s m args c own cc nL) (hdg : decode cc pc = .ok (.iinc 7 n, 3)) (hn : 7 < nL) (hv : Int32.ofInt n = v) (hc : c1 x6 = true := by rfl) (k : AW p l e R s m args below meth c D wd A0 nL cells slots Q (pc + 3) (x0 :: x1 :: x2 :: x3 :: x4 :: x5 :: x6 :: some (.int (x + v)) :: r) (st) (M)) : AW p l e R s m args below meth c D wd A0 nL cells slots Q (pc) (x0 :: x1 :: x2 :: x3 :: x4 :: x5 :: x6 :: some (.int x) :: r) (st) (M) :=
  s_iinc B hdg (by rfl) (by rw [hv]) hn (hs_pos [x0, x1, x2, x3, x4, x5, x6] r (some (.int x)) (.int (x + v)) (fun u h => by cases h; exact hc)) k
theorem p_istore8 {x0 : Option Value} {x1 : Option Value} {x2 : Option Value} {x3 : Option Value} {x4 : Option Value} {x5 : Option Value} {x6 : Option Value} {x7 : Option Value} {o : Option Value} {r : List (Option Value)} {v : Int32} (B : BS sk D cy wd A0 p s m args c own cc nL) (hdg : decode cc pc = .ok (.istore 8, 2)) (hn : 8 < nL) (hc : c1 x7 = true := by rfl) (k : AW p l e R s m args below meth c D wd A0 nL cells slots Q (pc + 2) (x0 :: x1 :: x2 :: x3 :: x4 :: x5 :: x6 :: x7 :: some (.int v) :: r) (st) (M)) : AW p l e R s m args below meth c D wd A0 nL cells slots Q (pc) (x0 :: x1 :: x2 :: x3 :: x4 :: x5 :: x6 :: x7 :: o :: r) (.int v :: st) (M) :=
  s_istore B hdg hn (hs_pos [x0, x1, x2, x3, x4, x5, x6, x7] r o (.int v) (fun u h => by cases h; exact hc)) k
theorem p_astore8 {x0 : Option Value} {x1 : Option Value} {x2 : Option Value} {x3 : Option Value} {x4 : Option Value} {x5 : Option Value} {x6 : Option Value} {x7 : Option Value} {o : Option Value} {r : List (Option Value)} {v : Nat} (B : BS sk D cy wd A0 p s m args c own cc nL) (hdg : decode cc pc = .ok (.astore 8, 2)) (hn : 8 < nL) (hc : c1 x7 = true := by rfl) (k : AW p l e R s m args below meth c D wd A0 nL cells slots Q (pc + 2) (x0 :: x1 :: x2 :: x3 :: x4 :: x5 :: x6 :: x7 :: some (.ref v) :: r) (st) (M)) : AW p l e R s m args below meth c D wd A0 nL cells slots Q (pc) (x0 :: x1 :: x2 :: x3 :: x4 :: x5 :: x6 :: x7 :: o :: r) (.ref v :: st) (M) :=
  s_astore B hdg hn (hs_pos [x0, x1, x2, x3, x4, x5, x6, x7] r o (.ref v) (fun u h => by cases h; exact hc)) k
theorem p_astoreN8 {x0 : Option Value} {x1 : Option Value} {x2 : Option Value} {x3 : Option Value} {x4 : Option Value} {x5 : Option Value} {x6 : Option Value} {x7 : Option Value} {o : Option Value} {r : List (Option Value)}  (B : BS sk D cy wd A0 p s m args c own cc nL) (hdg : decode cc pc = .ok (.astore 8, 2)) (hn : 8 < nL) (hc : c1 x7 = true := by rfl) (k : AW p l e R s m args below meth c D wd A0 nL cells slots Q (pc + 2) (x0 :: x1 :: x2 :: x3 :: x4 :: x5 :: x6 :: x7 :: some (.null) :: r) (st) (M)) : AW p l e R s m args below meth c D wd A0 nL cells slots Q (pc) (x0 :: x1 :: x2 :: x3 :: x4 :: x5 :: x6 :: x7 :: o :: r) (.null :: st) (M) :=
  s_astoreN B hdg hn (hs_pos [x0, x1, x2, x3, x4, x5, x6, x7] r o (.null) (fun u h => by cases h; exact hc)) k
theorem p_lstore8 {x0 : Option Value} {x1 : Option Value} {x2 : Option Value} {x3 : Option Value} {x4 : Option Value} {x5 : Option Value} {x6 : Option Value} {x7 : Option Value} {o o2 : Option Value} {r : List (Option Value)} {v : Int64} (B : BS sk D cy wd A0 p s m args c own cc nL) (hdg : decode cc pc = .ok (.lstore 8, 2)) (hn : 8 + 1 < nL) (hc : c1 x7 = true := by rfl) (k : AW p l e R s m args below meth c D wd A0 nL cells slots Q (pc + 2) (x0 :: x1 :: x2 :: x3 :: x4 :: x5 :: x6 :: x7 :: some (.long v) :: none :: r) (st) (M)) : AW p l e R s m args below meth c D wd A0 nL cells slots Q (pc) (x0 :: x1 :: x2 :: x3 :: x4 :: x5 :: x6 :: x7 :: o :: o2 :: r) (.long v :: st) (M) :=
  s_lstore B hdg hn (hs_posL [x0, x1, x2, x3, x4, x5, x6, x7] r o o2 (.long v) (fun u h => by cases h; exact hc)) k
theorem p_iinc8 {x0 : Option Value} {x1 : Option Value} {x2 : Option Value} {x3 : Option Value} {x4 : Option Value} {x5 : Option Value} {x6 : Option Value} {x7 : Option Value} {r : List (Option Value)} {x : Int32} {n : Int} (v : Int32) (B : BS sk D cy wd A0 p s m args c own cc nL) (hdg : decode cc pc = .ok (.iinc 8 n, 3)) (hn : 8 < nL) (hv : Int32.ofInt n = v) (hc : c1 x7 = true := by rfl) (k : AW p l e R s m args below meth c D wd A0 nL cells slots Q (pc + 3) (x0 :: x1 :: x2 :: x3 :: x4 :: x5 :: x6 :: x7 :: some (.int (x + v)) :: r) (st) (M)) : AW p l e R s m args below meth c D wd A0 nL cells slots Q (pc) (x0 :: x1 :: x2 :: x3 :: x4 :: x5 :: x6 :: x7 :: some (.int x) :: r) (st) (M) :=
  s_iinc B hdg (by rfl) (by rw [hv]) hn (hs_pos [x0, x1, x2, x3, x4, x5, x6, x7] r (some (.int x)) (.int (x + v)) (fun u h => by cases h; exact hc)) k
theorem a_zret {Post : Option Value → σ → Prop} {v : Int32} {ty : FieldType} (B : BS sk D cy wd A0 p s m args c own cc nL) (hr : meth.sig.returnType = some ty) (hk : meth.locks = false) (hn : narrow ty (.int v) = .int v) (hdg : decode cc pc = .ok (.ireturn, 1)) (hp : Post (some (.int v)) M) : AW p l e R s m args below meth c D wd A0 nL 0 0 (MQ below (QG D wd A0 Post) args s 0 0 A0) (pc) (lo) ([.int v]) (M) := by
  intro H locs ls hP hS hL
  exact W.zret B.1.1 B.1.2.1 hr hn (fun t ht hW => ⟨⟨_, M, rfl, hp, by rw [ht]; exact hP⟩, hS.F ht⟩) hS.2.2 hdg hk
theorem a_iret {Post : Option Value → σ → Prop} {v : Int32} (B : BS sk D cy wd A0 p s m args c own cc nL) (hr : meth.sig.returnType = some .int) (hk : meth.locks = false) (hdg : decode cc pc = .ok (.ireturn, 1)) (hp : Post (some (.int v)) M) : AW p l e R s m args below meth c D wd A0 nL 0 0 (MQ below (QG D wd A0 Post) args s 0 0 A0) (pc) (lo) ([.int v]) (M) :=
  a_zret B hr hk rfl hdg hp
theorem a_lret {Post : Option Value → σ → Prop} {v : Int64} (B : BS sk D cy wd A0 p s m args c own cc nL) (hr : meth.sig.returnType = some .long) (hk : meth.locks = false) (hdg : decode cc pc = .ok (.lreturn, 1)) (hp : Post (some (.long v)) M) : AW p l e R s m args below meth c D wd A0 nL 0 0 (MQ below (QG D wd A0 Post) args s 0 0 A0) (pc) (lo) ([.long v]) (M) := by
  intro H locs ls hP hS hL
  exact W.lret B.1.1 B.1.2.1 hr (fun t ht hW => ⟨⟨_, M, rfl, hp, by rw [ht]; exact hP⟩, hS.F ht⟩) hS.2.2 hdg hk
theorem a_vret {Post : Option Value → σ → Prop} (B : BS sk D cy wd A0 p s m args c own cc nL) (hr : meth.sig.returnType = none) (hk : meth.locks = false) (hdg : decode cc pc = .ok (.return_, 1)) (hp : Post none M) : AW p l e R s m args below meth c D wd A0 nL 0 0 (MQ below (QG D wd A0 Post) args s 0 0 A0) (pc) (lo) ([]) (M) := by
  intro H locs ls hP hS hL
  exact W.vret B.1.1 B.1.2.1 hr (fun t ht hW => ⟨⟨_, M, rfl, hp, by rw [ht]; exact hP⟩, hS.F ht⟩) hS.2.2 hdg hk
theorem a_aret {Post : Option Value → σ → Prop} {v : Value} {ty : FieldType} (B : BS sk D cy wd A0 p s m args c own cc nL) (hr : meth.sig.returnType = some ty) (hk : meth.locks = false) (ht : (∃ n, ty = .object n) ∨ ∃ t, ty = .array t) (hv : v = .null ∨ ∃ a, v = .ref a) (hdg : decode cc pc = .ok (.areturn, 1)) (hp : Post (some v) M) : AW p l e R s m args below meth c D wd A0 nL 0 0 (MQ below (QG D wd A0 Post) args s 0 0 A0) (pc) (lo) ([v]) (M) := by
  intro H locs ls hP hS hL
  exact W.aret B.1.1 B.1.2.1 hr ht hv (fun t ht hW => ⟨⟨_, M, rfl, hp, by rw [ht]; exact hP⟩, hS.F ht⟩) hS.2.2 hdg hk

/-- the object at b is of that class, in every state of the world -/
def RC {σ : Type} (wd : σ → va_W) (b : Nat) (C : String) : Prop := ∀ M : σ, ∃ (q0 ci : Nat) (fs : List Value) (q : vw_C), (wd M)[q0]? = some (b, .inr (ci, fs)) ∧ vwCl[ci]? = some q ∧ q.1 = C
theorem preK_blind {σ : Type} {sk : (Nat → Nat) × (Nat → Nat)} {D : va_G} {cy : Nat → ClassId} {wd : σ → va_W} {M : σ} {sz : Nat} {av : List Value} : FrameBlind (va_Pc av (preK sk D cy wd M sz)) := by
  intro a U g mk q
  obtain ⟨q0, q1, qP, qK, qD, qN, qH⟩ := q
  exact ⟨q0, q1, qP, va_K.moved (u := U) (U := U.calling g mk a) (Vm.Alike.refl U.vm) qK, qD, fun w hw => va_Nw.same (nl_onT hw) (u := U) (U := U.calling g mk a) rfl (qN w hw), qH.calling⟩
theorem preK_at {H : Heap} {locs : List Loc} (B : BS sk D cy wd A0 p s m args c own cc nL) (hP : va_P D vwCl (wd M) H) (hS : va_S A0 s.heap H locs) (U : State) (hU : U.heap = H) (hW : s.WarmedH U.vm) : preK sk D cy wd M H.size U := by
  refine ⟨by rw [hU], by rw [hU]; exact hP, va_K.moved hW.alike B.2.1, (B.2.2.2.1 M).weaken (fun _ _ _ _ => trivial), fun w hw => nl_warm hw hW (B.2.2.1 w hw), ?_⟩
  refine B.2.2.2.2.1.move hW (fun a h1 h2 => by rw [hU]; exact hS.2.1 a h1 h2) (fun q hq => ?_)
  rcases hq with ⟨k, e1, hk⟩ | hq
  · exact (B.2.2.2.1 M).2 k (q, e1) hk
  · exact B.2.2.2.2.2.1 q (Nat.le_trans hS.1 hq)
theorem a_run {PostC : Option Value → σ → Prop} {H : Heap} {locs : List Loc} {ls : Array Slot} {st0 rest : List Value} {a : Array Value} (B : BS sk D cy wd A0 p s m args c own cc nL) (hP : va_P D vwCl (wd M) H) (hS : va_S A0 s.heap H locs) (hL : lv_has ls nL (lo2 0 lo))
    (hr : va_Run p l e R s m args below meth c H locs cells slots 0 0 (F0 m pc ls st0) rest (QG D wd (va_A (wd M) H.size) PostC a) (va_A (wd M) H.size))
    (kk : ∀ (v : Option Value) (M' : σ), PostC v M' → AW p l e R s m args below meth c D wd A0 nL cells slots Q (pc + 3) (lo) (v.toList ++ rest) (M')) : W p l e R s m args below meth c H locs cells slots Q (F0 m pc ls st0) := by
  have hA : ∀ q, va_A (wd M) H.size q → A0 q := by
    intro q hq
    rcases hq with ⟨k, e1, hk⟩ | hq
    · exact (B.2.2.2.1 M).2 k (q, e1) hk
    · exact B.2.2.2.2.2.1 q (Nat.le_trans hS.1 hq)
  intro T hT X
  obtain ⟨v, st₀, t, T', L, h0, X', hLf, e1, e2, ⟨⟨v', M', hv, hp, hPP⟩, hz, hk⟩, stp⟩ := hr T hT X
  cases hv
  rw [h0] at hz hk
  obtain ⟨t2, a1, b1⟩ := kk v M' hp T'.heap (locs ++ L) ls (by rw [e1]; exact hPP)
    ⟨Nat.le_trans hS.1 (by rw [e1]; exact hz), fun q h1 h2 => by rw [e1, hk q (Nat.lt_of_lt_of_le h1 hS.1) (fun z => h2 (hA q z))]; exact hS.2.1 q h1 h2, fun q hq => by
      rcases List.mem_append.mp hq with h | h
      · exact hS.2.2 q h
      · exact hA _ (hLf q h)⟩ hL T' rfl X'
  exact ⟨t2, stp t2 a1, b1⟩


theorem cw_of {y : MD} {n fr lc index : Nat} (B : BS sk D cy wd A0 p s m args c own cc nL) (hF : CF y n) (hl : Cond.methodLink own index y.1 ∈ GW) (hR : fr + 1 ≤ R.frames ∧ 8 + (y.2.2.1 + 11) + lc ≤ R.locals) : CallB R s args own index y.1 y.2.1 y.2.2.1 y.2.2.2 (cdW y :: GW) (rmK fr lc) 0 0 n := by
  have hg : ∀ w ∈ cdW y :: GW, w ∈ GW := fun w hw => (List.mem_cons.mp hw).elim (fun e => e ▸ hF.1) id
  exact callB_of n B.1.2.2.2.2 (gw_good hg) rfl rfl rfl (B.1.2.2.2.2 _ hF.2.1) (B.1.2.2.2.2 _ hl) hF.2.2.1 hR


theorem a_callV {y : MD} {n fr lc index b : Nat} {As : List Value} {st0 : List Value} {PostC : Option Value → σ → Prop} (B : BS sk D cy wd A0 p s m args c own cc nL) (hF : CF y n) (hl : Cond.methodLink own index y.1 ∈ GW) (hi : Cond.instanceMethod y.1 ∈ GW) (hse : Cond.selects y.1.cls y.1 y.1 ∈ GW) (hRC : RC wd b y.1.cls) (hC : Con l sk D cy wd y fr lc (.ref b :: As) M PostC)
    (hdg : decode cc pc = .ok (.invokevirtual index, 3)) (hst : st0 = As.reverse ++ .ref b :: st) (hn : As.length = n) (hw : (st.map fun v => v.category).sum ≤ 8) (hR : fr + 1 ≤ R.frames ∧ 8 + (y.2.2.1 + 11) + lc ≤ R.locals) (hcs : cells ≤ R.cells ∧ slots ≤ R.slots)
    (kk : ∀ (v : Option Value) (M' : σ), PostC v M' → AW p l e R s m args below meth c D wd A0 nL cells slots Q (pc + 3) (lo) (v.toList ++ st) (M')) : AW p l e R s m args below meth c D wd A0 nL cells slots Q (pc) (lo) (st0) (M) := by
  intro H locs ls hP hS hL
  obtain ⟨q0, ci, fs, q, h1, h2, h3⟩ := hRC M
  have hrec := va_recv B.2.1 hP h2 h1
  rw [h3] at hrec
  exact a_run B hP hS hL (va_runV (As := As) (rest := st) B.1 (hC H.size) ⟨cw_of B hF hl hR, B.1.2.2.2.2 _ hi, B.1.2.2.2.2 _ hse⟩ ⟨preK_blind, hrec, fun U hU hW => ⟨rfl, preK_at B hP hS U hU hW⟩⟩ rfl hn hL.1 hst (lv_room hw) hdg hcs) kk
theorem a_callS {y : MD} {n fr lc index : Nat} {As : List Value} {st0 : List Value} {PostC : Option Value → σ → Prop} (B : BS sk D cy wd A0 p s m args c own cc nL) (hF : CF y n) (hl : Cond.methodLink own index y.1 ∈ GW) (hi : Cond.static y.1 ∈ GW) (hC : Con l sk D cy wd y fr lc As M PostC)
    (hdg : decode cc pc = .ok (.invokestatic index, 3)) (hst : st0 = As.reverse ++ st) (hn : As.length = n) (hw : (st.map fun v => v.category).sum ≤ 8) (hR : fr + 1 ≤ R.frames ∧ 8 + (y.2.2.1 + 11) + lc ≤ R.locals) (hcs : cells ≤ R.cells ∧ slots ≤ R.slots)
    (kk : ∀ (v : Option Value) (M' : σ), PostC v M' → AW p l e R s m args below meth c D wd A0 nL cells slots Q (pc + 3) (lo) (v.toList ++ st) (M')) : AW p l e R s m args below meth c D wd A0 nL cells slots Q (pc) (lo) (st0) (M) := by
  intro H locs ls hP hS hL
  exact a_run B hP hS hL (va_runS (As := As) (rest := st) B.1 (hC H.size) ⟨cw_of B hF hl hR, B.1.2.2.2.2 _ hi⟩ ⟨preK_blind, fun U hU hW => ⟨rfl, preK_at B hP hS U hU hW⟩⟩ rfl hn hL.1 hst (lv_room hw) hdg hcs) kk
theorem a_callSN {y : MD} {host : String} {n fr lc index : Nat} {As : List Value} {st0 : List Value} {PostC : Option Value → σ → Prop} (B : BS sk D cy wd A0 p s m args c own cc nL) (hF : CF y n) (hl : Cond.methodLinkNest own index y.1 host ∈ NL) (hi : Cond.static y.1 ∈ GW) (hC : Con l sk D cy wd y fr lc As M PostC)
    (hdg : decode cc pc = .ok (.invokestatic index, 3)) (hst : st0 = As.reverse ++ st) (hn : As.length = n) (hw : (st.map fun v => v.category).sum ≤ 8) (hR : fr + 1 ≤ R.frames ∧ 8 + (y.2.2.1 + 11) + lc ≤ R.locals) (hcs : cells ≤ R.cells ∧ slots ≤ R.slots)
    (kk : ∀ (v : Option Value) (M' : σ), PostC v M' → AW p l e R s m args below meth c D wd A0 nL cells slots Q (pc + 3) (lo) (v.toList ++ st) (M')) : AW p l e R s m args below meth c D wd A0 nL cells slots Q (pc) (lo) (st0) (M) := by
  intro H locs ls hP hS hL
  have hg : ∀ w ∈ cdW y :: GW, w ∈ GW := fun w hw => (List.mem_cons.mp hw).elim (fun e => e ▸ hF.1) id
  exact a_run B hP hS hL (va_runSN (As := As) (rest := st) B.1 (hC H.size) ⟨va_cnB n B.1.2.2.2.2 (gw_good hg) rfl rfl rfl (B.2.2.1 _ hl) (B.1.2.2.2.2 _ hF.2.1) hF.2.2.1 hR, B.1.2.2.2.2 _ hi, trivial⟩ ⟨preK_blind, fun U hU hW => ⟨rfl, preK_at B hP hS U hU hW⟩⟩ rfl hn hL.1 hst (lv_room hw) hdg hcs) kk

theorem a_callV0r {y : MD} {h h1 lc1 index : Nat} {b : Nat} {r : Value} {M2 : σ} (B : BS sk D cy wd A0 p s m args c own cc nL) (hR0 : R = rmK h1 lc1) (hF : CF y 0) (hl : Cond.methodLink own index y.1 ∈ GW) (hi : Cond.instanceMethod y.1 ∈ GW) (hse : Cond.selects y.1.cls y.1 y.1 ∈ GW) (hRC : RC wd b y.1.cls) (hC : Con l sk D cy wd y h (34 * h) [.ref b] M (rt1 (some r) M2)) (hdg : decode cc pc = .ok (.invokevirtual index, 3)) (hw : (st.map fun v => v.category).sum ≤ 8) (hR : h + 1 ≤ h1 ∧ 8 + (y.2.2.1 + 11) + 34 * h ≤ lc1) (hcs : cells = 0 ∧ slots = 0) (kk : AW p l e R s m args below meth c D wd A0 nL cells slots Q (pc + 3) (lo) (r :: st) (M2)) : AW p l e R s m args below meth c D wd A0 nL cells slots Q (pc) (lo) (.ref b :: st) (M) :=
  a_callV (As := []) B hF hl hi hse hRC hC hdg rfl rfl hw (by subst hR0; exact hR) (by obtain ⟨rfl, rfl⟩ := hcs; exact ⟨Nat.zero_le _, Nat.zero_le _⟩) (fun v M9 h => by obtain ⟨rfl, rfl⟩ := h; exact kk)
theorem a_callV0v {y : MD} {h h1 lc1 index : Nat} {b : Nat} {M2 : σ} (B : BS sk D cy wd A0 p s m args c own cc nL) (hR0 : R = rmK h1 lc1) (hF : CF y 0) (hl : Cond.methodLink own index y.1 ∈ GW) (hi : Cond.instanceMethod y.1 ∈ GW) (hse : Cond.selects y.1.cls y.1 y.1 ∈ GW) (hRC : RC wd b y.1.cls) (hC : Con l sk D cy wd y h (34 * h) [.ref b] M (rt1 none M2)) (hdg : decode cc pc = .ok (.invokevirtual index, 3)) (hw : (st.map fun v => v.category).sum ≤ 8) (hR : h + 1 ≤ h1 ∧ 8 + (y.2.2.1 + 11) + 34 * h ≤ lc1) (hcs : cells = 0 ∧ slots = 0) (kk : AW p l e R s m args below meth c D wd A0 nL cells slots Q (pc + 3) (lo) (st) (M2)) : AW p l e R s m args below meth c D wd A0 nL cells slots Q (pc) (lo) (.ref b :: st) (M) :=
  a_callV (As := []) B hF hl hi hse hRC hC hdg rfl rfl hw (by subst hR0; exact hR) (by obtain ⟨rfl, rfl⟩ := hcs; exact ⟨Nat.zero_le _, Nat.zero_le _⟩) (fun v M9 h => by obtain ⟨rfl, rfl⟩ := h; exact kk)
theorem a_callV0p {y : MD} {h h1 lc1 index : Nat} {b : Nat} {PostC : Option Value → σ → Prop} (B : BS sk D cy wd A0 p s m args c own cc nL) (hR0 : R = rmK h1 lc1) (hF : CF y 0) (hl : Cond.methodLink own index y.1 ∈ GW) (hi : Cond.instanceMethod y.1 ∈ GW) (hse : Cond.selects y.1.cls y.1 y.1 ∈ GW) (hRC : RC wd b y.1.cls) (hC : Con l sk D cy wd y h (34 * h) [.ref b] M PostC) (hdg : decode cc pc = .ok (.invokevirtual index, 3)) (hw : (st.map fun v => v.category).sum ≤ 8) (hR : h + 1 ≤ h1 ∧ 8 + (y.2.2.1 + 11) + 34 * h ≤ lc1) (hcs : cells = 0 ∧ slots = 0) (kk : ∀ (v : Option Value) (M9 : σ), PostC v M9 → AW p l e R s m args below meth c D wd A0 nL cells slots Q (pc + 3) (lo) (v.toList ++ st) (M9)) : AW p l e R s m args below meth c D wd A0 nL cells slots Q (pc) (lo) (.ref b :: st) (M) :=
  a_callV (As := []) B hF hl hi hse hRC hC hdg rfl rfl hw (by subst hR0; exact hR) (by obtain ⟨rfl, rfl⟩ := hcs; exact ⟨Nat.zero_le _, Nat.zero_le _⟩) kk
theorem a_callV1r {y : MD} {h h1 lc1 index : Nat} {b : Nat} {v0 : Value} {r : Value} {M2 : σ} (B : BS sk D cy wd A0 p s m args c own cc nL) (hR0 : R = rmK h1 lc1) (hF : CF y 1) (hl : Cond.methodLink own index y.1 ∈ GW) (hi : Cond.instanceMethod y.1 ∈ GW) (hse : Cond.selects y.1.cls y.1 y.1 ∈ GW) (hRC : RC wd b y.1.cls) (hC : Con l sk D cy wd y h (34 * h) [.ref b, v0] M (rt1 (some r) M2)) (hdg : decode cc pc = .ok (.invokevirtual index, 3)) (hw : (st.map fun v => v.category).sum ≤ 8) (hR : h + 1 ≤ h1 ∧ 8 + (y.2.2.1 + 11) + 34 * h ≤ lc1) (hcs : cells = 0 ∧ slots = 0) (kk : AW p l e R s m args below meth c D wd A0 nL cells slots Q (pc + 3) (lo) (r :: st) (M2)) : AW p l e R s m args below meth c D wd A0 nL cells slots Q (pc) (lo) (v0 :: .ref b :: st) (M) :=
  a_callV (As := [v0]) B hF hl hi hse hRC hC hdg rfl rfl hw (by subst hR0; exact hR) (by obtain ⟨rfl, rfl⟩ := hcs; exact ⟨Nat.zero_le _, Nat.zero_le _⟩) (fun v M9 h => by obtain ⟨rfl, rfl⟩ := h; exact kk)
theorem a_callV1v {y : MD} {h h1 lc1 index : Nat} {b : Nat} {v0 : Value} {M2 : σ} (B : BS sk D cy wd A0 p s m args c own cc nL) (hR0 : R = rmK h1 lc1) (hF : CF y 1) (hl : Cond.methodLink own index y.1 ∈ GW) (hi : Cond.instanceMethod y.1 ∈ GW) (hse : Cond.selects y.1.cls y.1 y.1 ∈ GW) (hRC : RC wd b y.1.cls) (hC : Con l sk D cy wd y h (34 * h) [.ref b, v0] M (rt1 none M2)) (hdg : decode cc pc = .ok (.invokevirtual index, 3)) (hw : (st.map fun v => v.category).sum ≤ 8) (hR : h + 1 ≤ h1 ∧ 8 + (y.2.2.1 + 11) + 34 * h ≤ lc1) (hcs : cells = 0 ∧ slots = 0) (kk : AW p l e R s m args below meth c D wd A0 nL cells slots Q (pc + 3) (lo) (st) (M2)) : AW p l e R s m args below meth c D wd A0 nL cells slots Q (pc) (lo) (v0 :: .ref b :: st) (M) :=
  a_callV (As := [v0]) B hF hl hi hse hRC hC hdg rfl rfl hw (by subst hR0; exact hR) (by obtain ⟨rfl, rfl⟩ := hcs; exact ⟨Nat.zero_le _, Nat.zero_le _⟩) (fun v M9 h => by obtain ⟨rfl, rfl⟩ := h; exact kk)
theorem a_callV1p {y : MD} {h h1 lc1 index : Nat} {b : Nat} {v0 : Value} {PostC : Option Value → σ → Prop} (B : BS sk D cy wd A0 p s m args c own cc nL) (hR0 : R = rmK h1 lc1) (hF : CF y 1) (hl : Cond.methodLink own index y.1 ∈ GW) (hi : Cond.instanceMethod y.1 ∈ GW) (hse : Cond.selects y.1.cls y.1 y.1 ∈ GW) (hRC : RC wd b y.1.cls) (hC : Con l sk D cy wd y h (34 * h) [.ref b, v0] M PostC) (hdg : decode cc pc = .ok (.invokevirtual index, 3)) (hw : (st.map fun v => v.category).sum ≤ 8) (hR : h + 1 ≤ h1 ∧ 8 + (y.2.2.1 + 11) + 34 * h ≤ lc1) (hcs : cells = 0 ∧ slots = 0) (kk : ∀ (v : Option Value) (M9 : σ), PostC v M9 → AW p l e R s m args below meth c D wd A0 nL cells slots Q (pc + 3) (lo) (v.toList ++ st) (M9)) : AW p l e R s m args below meth c D wd A0 nL cells slots Q (pc) (lo) (v0 :: .ref b :: st) (M) :=
  a_callV (As := [v0]) B hF hl hi hse hRC hC hdg rfl rfl hw (by subst hR0; exact hR) (by obtain ⟨rfl, rfl⟩ := hcs; exact ⟨Nat.zero_le _, Nat.zero_le _⟩) kk
theorem a_callV2r {y : MD} {h h1 lc1 index : Nat} {b : Nat} {v0 v1 : Value} {r : Value} {M2 : σ} (B : BS sk D cy wd A0 p s m args c own cc nL) (hR0 : R = rmK h1 lc1) (hF : CF y 2) (hl : Cond.methodLink own index y.1 ∈ GW) (hi : Cond.instanceMethod y.1 ∈ GW) (hse : Cond.selects y.1.cls y.1 y.1 ∈ GW) (hRC : RC wd b y.1.cls) (hC : Con l sk D cy wd y h (34 * h) [.ref b, v0, v1] M (rt1 (some r) M2)) (hdg : decode cc pc = .ok (.invokevirtual index, 3)) (hw : (st.map fun v => v.category).sum ≤ 8) (hR : h + 1 ≤ h1 ∧ 8 + (y.2.2.1 + 11) + 34 * h ≤ lc1) (hcs : cells = 0 ∧ slots = 0) (kk : AW p l e R s m args below meth c D wd A0 nL cells slots Q (pc + 3) (lo) (r :: st) (M2)) : AW p l e R s m args below meth c D wd A0 nL cells slots Q (pc) (lo) (v1 :: v0 :: .ref b :: st) (M) :=
  a_callV (As := [v0, v1]) B hF hl hi hse hRC hC hdg rfl rfl hw (by subst hR0; exact hR) (by obtain ⟨rfl, rfl⟩ := hcs; exact ⟨Nat.zero_le _, Nat.zero_le _⟩) (fun v M9 h => by obtain ⟨rfl, rfl⟩ := h; exact kk)
theorem a_callV2v {y : MD} {h h1 lc1 index : Nat} {b : Nat} {v0 v1 : Value} {M2 : σ} (B : BS sk D cy wd A0 p s m args c own cc nL) (hR0 : R = rmK h1 lc1) (hF : CF y 2) (hl : Cond.methodLink own index y.1 ∈ GW) (hi : Cond.instanceMethod y.1 ∈ GW) (hse : Cond.selects y.1.cls y.1 y.1 ∈ GW) (hRC : RC wd b y.1.cls) (hC : Con l sk D cy wd y h (34 * h) [.ref b, v0, v1] M (rt1 none M2)) (hdg : decode cc pc = .ok (.invokevirtual index, 3)) (hw : (st.map fun v => v.category).sum ≤ 8) (hR : h + 1 ≤ h1 ∧ 8 + (y.2.2.1 + 11) + 34 * h ≤ lc1) (hcs : cells = 0 ∧ slots = 0) (kk : AW p l e R s m args below meth c D wd A0 nL cells slots Q (pc + 3) (lo) (st) (M2)) : AW p l e R s m args below meth c D wd A0 nL cells slots Q (pc) (lo) (v1 :: v0 :: .ref b :: st) (M) :=
  a_callV (As := [v0, v1]) B hF hl hi hse hRC hC hdg rfl rfl hw (by subst hR0; exact hR) (by obtain ⟨rfl, rfl⟩ := hcs; exact ⟨Nat.zero_le _, Nat.zero_le _⟩) (fun v M9 h => by obtain ⟨rfl, rfl⟩ := h; exact kk)
theorem a_callV2p {y : MD} {h h1 lc1 index : Nat} {b : Nat} {v0 v1 : Value} {PostC : Option Value → σ → Prop} (B : BS sk D cy wd A0 p s m args c own cc nL) (hR0 : R = rmK h1 lc1) (hF : CF y 2) (hl : Cond.methodLink own index y.1 ∈ GW) (hi : Cond.instanceMethod y.1 ∈ GW) (hse : Cond.selects y.1.cls y.1 y.1 ∈ GW) (hRC : RC wd b y.1.cls) (hC : Con l sk D cy wd y h (34 * h) [.ref b, v0, v1] M PostC) (hdg : decode cc pc = .ok (.invokevirtual index, 3)) (hw : (st.map fun v => v.category).sum ≤ 8) (hR : h + 1 ≤ h1 ∧ 8 + (y.2.2.1 + 11) + 34 * h ≤ lc1) (hcs : cells = 0 ∧ slots = 0) (kk : ∀ (v : Option Value) (M9 : σ), PostC v M9 → AW p l e R s m args below meth c D wd A0 nL cells slots Q (pc + 3) (lo) (v.toList ++ st) (M9)) : AW p l e R s m args below meth c D wd A0 nL cells slots Q (pc) (lo) (v1 :: v0 :: .ref b :: st) (M) :=
  a_callV (As := [v0, v1]) B hF hl hi hse hRC hC hdg rfl rfl hw (by subst hR0; exact hR) (by obtain ⟨rfl, rfl⟩ := hcs; exact ⟨Nat.zero_le _, Nat.zero_le _⟩) kk
theorem a_callV3r {y : MD} {h h1 lc1 index : Nat} {b : Nat} {v0 v1 v2 : Value} {r : Value} {M2 : σ} (B : BS sk D cy wd A0 p s m args c own cc nL) (hR0 : R = rmK h1 lc1) (hF : CF y 3) (hl : Cond.methodLink own index y.1 ∈ GW) (hi : Cond.instanceMethod y.1 ∈ GW) (hse : Cond.selects y.1.cls y.1 y.1 ∈ GW) (hRC : RC wd b y.1.cls) (hC : Con l sk D cy wd y h (34 * h) [.ref b, v0, v1, v2] M (rt1 (some r) M2)) (hdg : decode cc pc = .ok (.invokevirtual index, 3)) (hw : (st.map fun v => v.category).sum ≤ 8) (hR : h + 1 ≤ h1 ∧ 8 + (y.2.2.1 + 11) + 34 * h ≤ lc1) (hcs : cells = 0 ∧ slots = 0) (kk : AW p l e R s m args below meth c D wd A0 nL cells slots Q (pc + 3) (lo) (r :: st) (M2)) : AW p l e R s m args below meth c D wd A0 nL cells slots Q (pc) (lo) (v2 :: v1 :: v0 :: .ref b :: st) (M) :=
  a_callV (As := [v0, v1, v2]) B hF hl hi hse hRC hC hdg rfl rfl hw (by subst hR0; exact hR) (by obtain ⟨rfl, rfl⟩ := hcs; exact ⟨Nat.zero_le _, Nat.zero_le _⟩) (fun v M9 h => by obtain ⟨rfl, rfl⟩ := h; exact kk)
theorem a_callV3v {y : MD} {h h1 lc1 index : Nat} {b : Nat} {v0 v1 v2 : Value} {M2 : σ} (B : BS sk D cy wd A0 p s m args c own cc nL) (hR0 : R = rmK h1 lc1) (hF : CF y 3) (hl : Cond.methodLink own index y.1 ∈ GW) (hi : Cond.instanceMethod y.1 ∈ GW) (hse : Cond.selects y.1.cls y.1 y.1 ∈ GW) (hRC : RC wd b y.1.cls) (hC : Con l sk D cy wd y h (34 * h) [.ref b, v0, v1, v2] M (rt1 none M2)) (hdg : decode cc pc = .ok (.invokevirtual index, 3)) (hw : (st.map fun v => v.category).sum ≤ 8) (hR : h + 1 ≤ h1 ∧ 8 + (y.2.2.1 + 11) + 34 * h ≤ lc1) (hcs : cells = 0 ∧ slots = 0) (kk : AW p l e R s m args below meth c D wd A0 nL cells slots Q (pc + 3) (lo) (st) (M2)) : AW p l e R s m args below meth c D wd A0 nL cells slots Q (pc) (lo) (v2 :: v1 :: v0 :: .ref b :: st) (M) :=
  a_callV (As := [v0, v1, v2]) B hF hl hi hse hRC hC hdg rfl rfl hw (by subst hR0; exact hR) (by obtain ⟨rfl, rfl⟩ := hcs; exact ⟨Nat.zero_le _, Nat.zero_le _⟩) (fun v M9 h => by obtain ⟨rfl, rfl⟩ := h; exact kk)
theorem a_callV3p {y : MD} {h h1 lc1 index : Nat} {b : Nat} {v0 v1 v2 : Value} {PostC : Option Value → σ → Prop} (B : BS sk D cy wd A0 p s m args c own cc nL) (hR0 : R = rmK h1 lc1) (hF : CF y 3) (hl : Cond.methodLink own index y.1 ∈ GW) (hi : Cond.instanceMethod y.1 ∈ GW) (hse : Cond.selects y.1.cls y.1 y.1 ∈ GW) (hRC : RC wd b y.1.cls) (hC : Con l sk D cy wd y h (34 * h) [.ref b, v0, v1, v2] M PostC) (hdg : decode cc pc = .ok (.invokevirtual index, 3)) (hw : (st.map fun v => v.category).sum ≤ 8) (hR : h + 1 ≤ h1 ∧ 8 + (y.2.2.1 + 11) + 34 * h ≤ lc1) (hcs : cells = 0 ∧ slots = 0) (kk : ∀ (v : Option Value) (M9 : σ), PostC v M9 → AW p l e R s m args below meth c D wd A0 nL cells slots Q (pc + 3) (lo) (v.toList ++ st) (M9)) : AW p l e R s m args below meth c D wd A0 nL cells slots Q (pc) (lo) (v2 :: v1 :: v0 :: .ref b :: st) (M) :=
  a_callV (As := [v0, v1, v2]) B hF hl hi hse hRC hC hdg rfl rfl hw (by subst hR0; exact hR) (by obtain ⟨rfl, rfl⟩ := hcs; exact ⟨Nat.zero_le _, Nat.zero_le _⟩) kk
theorem a_callV4r {y : MD} {h h1 lc1 index : Nat} {b : Nat} {v0 v1 v2 v3 : Value} {r : Value} {M2 : σ} (B : BS sk D cy wd A0 p s m args c own cc nL) (hR0 : R = rmK h1 lc1) (hF : CF y 4) (hl : Cond.methodLink own index y.1 ∈ GW) (hi : Cond.instanceMethod y.1 ∈ GW) (hse : Cond.selects y.1.cls y.1 y.1 ∈ GW) (hRC : RC wd b y.1.cls) (hC : Con l sk D cy wd y h (34 * h) [.ref b, v0, v1, v2, v3] M (rt1 (some r) M2)) (hdg : decode cc pc = .ok (.invokevirtual index, 3)) (hw : (st.map fun v => v.category).sum ≤ 8) (hR : h + 1 ≤ h1 ∧ 8 + (y.2.2.1 + 11) + 34 * h ≤ lc1) (hcs : cells = 0 ∧ slots = 0) (kk : AW p l e R s m args below meth c D wd A0 nL cells slots Q (pc + 3) (lo) (r :: st) (M2)) : AW p l e R s m args below meth c D wd A0 nL cells slots Q (pc) (lo) (v3 :: v2 :: v1 :: v0 :: .ref b :: st) (M) :=
  a_callV (As := [v0, v1, v2, v3]) B hF hl hi hse hRC hC hdg rfl rfl hw (by subst hR0; exact hR) (by obtain ⟨rfl, rfl⟩ := hcs; exact ⟨Nat.zero_le _, Nat.zero_le _⟩) (fun v M9 h => by obtain ⟨rfl, rfl⟩ := h; exact kk)
theorem a_callV4v {y : MD} {h h1 lc1 index : Nat} {b : Nat} {v0 v1 v2 v3 : Value} {M2 : σ} (B : BS sk D cy wd A0 p s m args c own cc nL) (hR0 : R = rmK h1 lc1) (hF : CF y 4) (hl : Cond.methodLink own index y.1 ∈ GW) (hi : Cond.instanceMethod y.1 ∈ GW) (hse : Cond.selects y.1.cls y.1 y.1 ∈ GW) (hRC : RC wd b y.1.cls) (hC : Con l sk D cy wd y h (34 * h) [.ref b, v0, v1, v2, v3] M (rt1 none M2)) (hdg : decode cc pc = .ok (.invokevirtual index, 3)) (hw : (st.map fun v => v.category).sum ≤ 8) (hR : h + 1 ≤ h1 ∧ 8 + (y.2.2.1 + 11) + 34 * h ≤ lc1) (hcs : cells = 0 ∧ slots = 0) (kk : AW p l e R s m args below meth c D wd A0 nL cells slots Q (pc + 3) (lo) (st) (M2)) : AW p l e R s m args below meth c D wd A0 nL cells slots Q (pc) (lo) (v3 :: v2 :: v1 :: v0 :: .ref b :: st) (M) :=
  a_callV (As := [v0, v1, v2, v3]) B hF hl hi hse hRC hC hdg rfl rfl hw (by subst hR0; exact hR) (by obtain ⟨rfl, rfl⟩ := hcs; exact ⟨Nat.zero_le _, Nat.zero_le _⟩) (fun v M9 h => by obtain ⟨rfl, rfl⟩ := h; exact kk)
theorem a_callV4p {y : MD} {h h1 lc1 index : Nat} {b : Nat} {v0 v1 v2 v3 : Value} {PostC : Option Value → σ → Prop} (B : BS sk D cy wd A0 p s m args c own cc nL) (hR0 : R = rmK h1 lc1) (hF : CF y 4) (hl : Cond.methodLink own index y.1 ∈ GW) (hi : Cond.instanceMethod y.1 ∈ GW) (hse : Cond.selects y.1.cls y.1 y.1 ∈ GW) (hRC : RC wd b y.1.cls) (hC : Con l sk D cy wd y h (34 * h) [.ref b, v0, v1, v2, v3] M PostC) (hdg : decode cc pc = .ok (.invokevirtual index, 3)) (hw : (st.map fun v => v.category).sum ≤ 8) (hR : h + 1 ≤ h1 ∧ 8 + (y.2.2.1 + 11) + 34 * h ≤ lc1) (hcs : cells = 0 ∧ slots = 0) (kk : ∀ (v : Option Value) (M9 : σ), PostC v M9 → AW p l e R s m args below meth c D wd A0 nL cells slots Q (pc + 3) (lo) (v.toList ++ st) (M9)) : AW p l e R s m args below meth c D wd A0 nL cells slots Q (pc) (lo) (v3 :: v2 :: v1 :: v0 :: .ref b :: st) (M) :=
  a_callV (As := [v0, v1, v2, v3]) B hF hl hi hse hRC hC hdg rfl rfl hw (by subst hR0; exact hR) (by obtain ⟨rfl, rfl⟩ := hcs; exact ⟨Nat.zero_le _, Nat.zero_le _⟩) kk
theorem a_callV5r {y : MD} {h h1 lc1 index : Nat} {b : Nat} {v0 v1 v2 v3 v4 : Value} {r : Value} {M2 : σ} (B : BS sk D cy wd A0 p s m args c own cc nL) (hR0 : R = rmK h1 lc1) (hF : CF y 5) (hl : Cond.methodLink own index y.1 ∈ GW) (hi : Cond.instanceMethod y.1 ∈ GW) (hse : Cond.selects y.1.cls y.1 y.1 ∈ GW) (hRC : RC wd b y.1.cls) (hC : Con l sk D cy wd y h (34 * h) [.ref b, v0, v1, v2, v3, v4] M (rt1 (some r) M2)) (hdg : decode cc pc = .ok (.invokevirtual index, 3)) (hw : (st.map fun v => v.category).sum ≤ 8) (hR : h + 1 ≤ h1 ∧ 8 + (y.2.2.1 + 11) + 34 * h ≤ lc1) (hcs : cells = 0 ∧ slots = 0) (kk : AW p l e R s m args below meth c D wd A0 nL cells slots Q (pc + 3) (lo) (r :: st) (M2)) : AW p l e R s m args below meth c D wd A0 nL cells slots Q (pc) (lo) (v4 :: v3 :: v2 :: v1 :: v0 :: .ref b :: st) (M) :=
  a_callV (As := [v0, v1, v2, v3, v4]) B hF hl hi hse hRC hC hdg rfl rfl hw (by subst hR0; exact hR) (by obtain ⟨rfl, rfl⟩ := hcs; exact ⟨Nat.zero_le _, Nat.zero_le _⟩) (fun v M9 h => by obtain ⟨rfl, rfl⟩ := h; exact kk)
theorem a_callV5v {y : MD} {h h1 lc1 index : Nat} {b : Nat} {v0 v1 v2 v3 v4 : Value} {M2 : σ} (B : BS sk D cy wd A0 p s m args c own cc nL) (hR0 : R = rmK h1 lc1) (hF : CF y 5) (hl : Cond.methodLink own index y.1 ∈ GW) (hi : Cond.instanceMethod y.1 ∈ GW) (hse : Cond.selects y.1.cls y.1 y.1 ∈ GW) (hRC : RC wd b y.1.cls) (hC : Con l sk D cy wd y h (34 * h) [.ref b, v0, v1, v2, v3, v4] M (rt1 none M2)) (hdg : decode cc pc = .ok (.invokevirtual index, 3)) (hw : (st.map fun v => v.category).sum ≤ 8) (hR : h + 1 ≤ h1 ∧ 8 + (y.2.2.1 + 11) + 34 * h ≤ lc1) (hcs : cells = 0 ∧ slots = 0) (kk : AW p l e R s m args below meth c D wd A0 nL cells slots Q (pc + 3) (lo) (st) (M2)) : AW p l e R s m args below meth c D wd A0 nL cells slots Q (pc) (lo) (v4 :: v3 :: v2 :: v1 :: v0 :: .ref b :: st) (M) :=
  a_callV (As := [v0, v1, v2, v3, v4]) B hF hl hi hse hRC hC hdg rfl rfl hw (by subst hR0; exact hR) (by obtain ⟨rfl, rfl⟩ := hcs; exact ⟨Nat.zero_le _, Nat.zero_le _⟩) (fun v M9 h => by obtain ⟨rfl, rfl⟩ := h; exact kk)
theorem a_callV5p {y : MD} {h h1 lc1 index : Nat} {b : Nat} {v0 v1 v2 v3 v4 : Value} {PostC : Option Value → σ → Prop} (B : BS sk D cy wd A0 p s m args c own cc nL) (hR0 : R = rmK h1 lc1) (hF : CF y 5) (hl : Cond.methodLink own index y.1 ∈ GW) (hi : Cond.instanceMethod y.1 ∈ GW) (hse : Cond.selects y.1.cls y.1 y.1 ∈ GW) (hRC : RC wd b y.1.cls) (hC : Con l sk D cy wd y h (34 * h) [.ref b, v0, v1, v2, v3, v4] M PostC) (hdg : decode cc pc = .ok (.invokevirtual index, 3)) (hw : (st.map fun v => v.category).sum ≤ 8) (hR : h + 1 ≤ h1 ∧ 8 + (y.2.2.1 + 11) + 34 * h ≤ lc1) (hcs : cells = 0 ∧ slots = 0) (kk : ∀ (v : Option Value) (M9 : σ), PostC v M9 → AW p l e R s m args below meth c D wd A0 nL cells slots Q (pc + 3) (lo) (v.toList ++ st) (M9)) : AW p l e R s m args below meth c D wd A0 nL cells slots Q (pc) (lo) (v4 :: v3 :: v2 :: v1 :: v0 :: .ref b :: st) (M) :=
  a_callV (As := [v0, v1, v2, v3, v4]) B hF hl hi hse hRC hC hdg rfl rfl hw (by subst hR0; exact hR) (by obtain ⟨rfl, rfl⟩ := hcs; exact ⟨Nat.zero_le _, Nat.zero_le _⟩) kk
theorem a_callS0r {y : MD} {h h1 lc1 index : Nat} {r : Value} {M2 : σ} (B : BS sk D cy wd A0 p s m args c own cc nL) (hR0 : R = rmK h1 lc1) (hF : CF y 0) (hl : Cond.methodLink own index y.1 ∈ GW) (hi : Cond.static y.1 ∈ GW) (hC : Con l sk D cy wd y h (34 * h) [] M (rt1 (some r) M2)) (hdg : decode cc pc = .ok (.invokestatic index, 3)) (hw : (st.map fun v => v.category).sum ≤ 8) (hR : h + 1 ≤ h1 ∧ 8 + (y.2.2.1 + 11) + 34 * h ≤ lc1) (hcs : cells = 0 ∧ slots = 0) (kk : AW p l e R s m args below meth c D wd A0 nL cells slots Q (pc + 3) (lo) (r :: st) (M2)) : AW p l e R s m args below meth c D wd A0 nL cells slots Q (pc) (lo) (st) (M) :=
  a_callS (As := []) B hF hl hi hC hdg rfl rfl hw (by subst hR0; exact hR) (by obtain ⟨rfl, rfl⟩ := hcs; exact ⟨Nat.zero_le _, Nat.zero_le _⟩) (fun v M9 h => by obtain ⟨rfl, rfl⟩ := h; exact kk)
theorem a_callS0v {y : MD} {h h1 lc1 index : Nat} {M2 : σ} (B : BS sk D cy wd A0 p s m args c own cc nL) (hR0 : R = rmK h1 lc1) (hF : CF y 0) (hl : Cond.methodLink own index y.1 ∈ GW) (hi : Cond.static y.1 ∈ GW) (hC : Con l sk D cy wd y h (34 * h) [] M (rt1 none M2)) (hdg : decode cc pc = .ok (.invokestatic index, 3)) (hw : (st.map fun v => v.category).sum ≤ 8) (hR : h + 1 ≤ h1 ∧ 8 + (y.2.2.1 + 11) + 34 * h ≤ lc1) (hcs : cells = 0 ∧ slots = 0) (kk : AW p l e R s m args below meth c D wd A0 nL cells slots Q (pc + 3) (lo) (st) (M2)) : AW p l e R s m args below meth c D wd A0 nL cells slots Q (pc) (lo) (st) (M) :=
  a_callS (As := []) B hF hl hi hC hdg rfl rfl hw (by subst hR0; exact hR) (by obtain ⟨rfl, rfl⟩ := hcs; exact ⟨Nat.zero_le _, Nat.zero_le _⟩) (fun v M9 h => by obtain ⟨rfl, rfl⟩ := h; exact kk)
theorem a_callS0p {y : MD} {h h1 lc1 index : Nat} {PostC : Option Value → σ → Prop} (B : BS sk D cy wd A0 p s m args c own cc nL) (hR0 : R = rmK h1 lc1) (hF : CF y 0) (hl : Cond.methodLink own index y.1 ∈ GW) (hi : Cond.static y.1 ∈ GW) (hC : Con l sk D cy wd y h (34 * h) [] M PostC) (hdg : decode cc pc = .ok (.invokestatic index, 3)) (hw : (st.map fun v => v.category).sum ≤ 8) (hR : h + 1 ≤ h1 ∧ 8 + (y.2.2.1 + 11) + 34 * h ≤ lc1) (hcs : cells = 0 ∧ slots = 0) (kk : ∀ (v : Option Value) (M9 : σ), PostC v M9 → AW p l e R s m args below meth c D wd A0 nL cells slots Q (pc + 3) (lo) (v.toList ++ st) (M9)) : AW p l e R s m args below meth c D wd A0 nL cells slots Q (pc) (lo) (st) (M) :=
  a_callS (As := []) B hF hl hi hC hdg rfl rfl hw (by subst hR0; exact hR) (by obtain ⟨rfl, rfl⟩ := hcs; exact ⟨Nat.zero_le _, Nat.zero_le _⟩) kk
theorem a_callS1r {y : MD} {h h1 lc1 index : Nat} {v0 : Value} {r : Value} {M2 : σ} (B : BS sk D cy wd A0 p s m args c own cc nL) (hR0 : R = rmK h1 lc1) (hF : CF y 1) (hl : Cond.methodLink own index y.1 ∈ GW) (hi : Cond.static y.1 ∈ GW) (hC : Con l sk D cy wd y h (34 * h) [v0] M (rt1 (some r) M2)) (hdg : decode cc pc = .ok (.invokestatic index, 3)) (hw : (st.map fun v => v.category).sum ≤ 8) (hR : h + 1 ≤ h1 ∧ 8 + (y.2.2.1 + 11) + 34 * h ≤ lc1) (hcs : cells = 0 ∧ slots = 0) (kk : AW p l e R s m args below meth c D wd A0 nL cells slots Q (pc + 3) (lo) (r :: st) (M2)) : AW p l e R s m args below meth c D wd A0 nL cells slots Q (pc) (lo) (v0 :: st) (M) :=
  a_callS (As := [v0]) B hF hl hi hC hdg rfl rfl hw (by subst hR0; exact hR) (by obtain ⟨rfl, rfl⟩ := hcs; exact ⟨Nat.zero_le _, Nat.zero_le _⟩) (fun v M9 h => by obtain ⟨rfl, rfl⟩ := h; exact kk)
theorem a_callS1v {y : MD} {h h1 lc1 index : Nat} {v0 : Value} {M2 : σ} (B : BS sk D cy wd A0 p s m args c own cc nL) (hR0 : R = rmK h1 lc1) (hF : CF y 1) (hl : Cond.methodLink own index y.1 ∈ GW) (hi : Cond.static y.1 ∈ GW) (hC : Con l sk D cy wd y h (34 * h) [v0] M (rt1 none M2)) (hdg : decode cc pc = .ok (.invokestatic index, 3)) (hw : (st.map fun v => v.category).sum ≤ 8) (hR : h + 1 ≤ h1 ∧ 8 + (y.2.2.1 + 11) + 34 * h ≤ lc1) (hcs : cells = 0 ∧ slots = 0) (kk : AW p l e R s m args below meth c D wd A0 nL cells slots Q (pc + 3) (lo) (st) (M2)) : AW p l e R s m args below meth c D wd A0 nL cells slots Q (pc) (lo) (v0 :: st) (M) :=
  a_callS (As := [v0]) B hF hl hi hC hdg rfl rfl hw (by subst hR0; exact hR) (by obtain ⟨rfl, rfl⟩ := hcs; exact ⟨Nat.zero_le _, Nat.zero_le _⟩) (fun v M9 h => by obtain ⟨rfl, rfl⟩ := h; exact kk)
theorem a_callS1p {y : MD} {h h1 lc1 index : Nat} {v0 : Value} {PostC : Option Value → σ → Prop} (B : BS sk D cy wd A0 p s m args c own cc nL) (hR0 : R = rmK h1 lc1) (hF : CF y 1) (hl : Cond.methodLink own index y.1 ∈ GW) (hi : Cond.static y.1 ∈ GW) (hC : Con l sk D cy wd y h (34 * h) [v0] M PostC) (hdg : decode cc pc = .ok (.invokestatic index, 3)) (hw : (st.map fun v => v.category).sum ≤ 8) (hR : h + 1 ≤ h1 ∧ 8 + (y.2.2.1 + 11) + 34 * h ≤ lc1) (hcs : cells = 0 ∧ slots = 0) (kk : ∀ (v : Option Value) (M9 : σ), PostC v M9 → AW p l e R s m args below meth c D wd A0 nL cells slots Q (pc + 3) (lo) (v.toList ++ st) (M9)) : AW p l e R s m args below meth c D wd A0 nL cells slots Q (pc) (lo) (v0 :: st) (M) :=
  a_callS (As := [v0]) B hF hl hi hC hdg rfl rfl hw (by subst hR0; exact hR) (by obtain ⟨rfl, rfl⟩ := hcs; exact ⟨Nat.zero_le _, Nat.zero_le _⟩) kk
theorem a_callS2r {y : MD} {h h1 lc1 index : Nat} {v0 v1 : Value} {r : Value} {M2 : σ} (B : BS sk D cy wd A0 p s m args c own cc nL) (hR0 : R = rmK h1 lc1) (hF : CF y 2) (hl : Cond.methodLink own index y.1 ∈ GW) (hi : Cond.static y.1 ∈ GW) (hC : Con l sk D cy wd y h (34 * h) [v0, v1] M (rt1 (some r) M2)) (hdg : decode cc pc = .ok (.invokestatic index, 3)) (hw : (st.map fun v => v.category).sum ≤ 8) (hR : h + 1 ≤ h1 ∧ 8 + (y.2.2.1 + 11) + 34 * h ≤ lc1) (hcs : cells = 0 ∧ slots = 0) (kk : AW p l e R s m args below meth c D wd A0 nL cells slots Q (pc + 3) (lo) (r :: st) (M2)) : AW p l e R s m args below meth c D wd A0 nL cells slots Q (pc) (lo) (v1 :: v0 :: st) (M) :=
  a_callS (As := [v0, v1]) B hF hl hi hC hdg rfl rfl hw (by subst hR0; exact hR) (by obtain ⟨rfl, rfl⟩ := hcs; exact ⟨Nat.zero_le _, Nat.zero_le _⟩) (fun v M9 h => by obtain ⟨rfl, rfl⟩ := h; exact kk)
theorem a_callS2v {y : MD} {h h1 lc1 index : Nat} {v0 v1 : Value} {M2 : σ} (B : BS sk D cy wd A0 p s m args c own cc nL) (hR0 : R = rmK h1 lc1) (hF : CF y 2) (hl : Cond.methodLink own index y.1 ∈ GW) (hi : Cond.static y.1 ∈ GW) (hC : Con l sk D cy wd y h (34 * h) [v0, v1] M (rt1 none M2)) (hdg : decode cc pc = .ok (.invokestatic index, 3)) (hw : (st.map fun v => v.category).sum ≤ 8) (hR : h + 1 ≤ h1 ∧ 8 + (y.2.2.1 + 11) + 34 * h ≤ lc1) (hcs : cells = 0 ∧ slots = 0) (kk : AW p l e R s m args below meth c D wd A0 nL cells slots Q (pc + 3) (lo) (st) (M2)) : AW p l e R s m args below meth c D wd A0 nL cells slots Q (pc) (lo) (v1 :: v0 :: st) (M) :=
  a_callS (As := [v0, v1]) B hF hl hi hC hdg rfl rfl hw (by subst hR0; exact hR) (by obtain ⟨rfl, rfl⟩ := hcs; exact ⟨Nat.zero_le _, Nat.zero_le _⟩) (fun v M9 h => by obtain ⟨rfl, rfl⟩ := h; exact kk)
theorem a_callS2p {y : MD} {h h1 lc1 index : Nat} {v0 v1 : Value} {PostC : Option Value → σ → Prop} (B : BS sk D cy wd A0 p s m args c own cc nL) (hR0 : R = rmK h1 lc1) (hF : CF y 2) (hl : Cond.methodLink own index y.1 ∈ GW) (hi : Cond.static y.1 ∈ GW) (hC : Con l sk D cy wd y h (34 * h) [v0, v1] M PostC) (hdg : decode cc pc = .ok (.invokestatic index, 3)) (hw : (st.map fun v => v.category).sum ≤ 8) (hR : h + 1 ≤ h1 ∧ 8 + (y.2.2.1 + 11) + 34 * h ≤ lc1) (hcs : cells = 0 ∧ slots = 0) (kk : ∀ (v : Option Value) (M9 : σ), PostC v M9 → AW p l e R s m args below meth c D wd A0 nL cells slots Q (pc + 3) (lo) (v.toList ++ st) (M9)) : AW p l e R s m args below meth c D wd A0 nL cells slots Q (pc) (lo) (v1 :: v0 :: st) (M) :=
  a_callS (As := [v0, v1]) B hF hl hi hC hdg rfl rfl hw (by subst hR0; exact hR) (by obtain ⟨rfl, rfl⟩ := hcs; exact ⟨Nat.zero_le _, Nat.zero_le _⟩) kk
theorem a_callS3r {y : MD} {h h1 lc1 index : Nat} {v0 v1 v2 : Value} {r : Value} {M2 : σ} (B : BS sk D cy wd A0 p s m args c own cc nL) (hR0 : R = rmK h1 lc1) (hF : CF y 3) (hl : Cond.methodLink own index y.1 ∈ GW) (hi : Cond.static y.1 ∈ GW) (hC : Con l sk D cy wd y h (34 * h) [v0, v1, v2] M (rt1 (some r) M2)) (hdg : decode cc pc = .ok (.invokestatic index, 3)) (hw : (st.map fun v => v.category).sum ≤ 8) (hR : h + 1 ≤ h1 ∧ 8 + (y.2.2.1 + 11) + 34 * h ≤ lc1) (hcs : cells = 0 ∧ slots = 0) (kk : AW p l e R s m args below meth c D wd A0 nL cells slots Q (pc + 3) (lo) (r :: st) (M2)) : AW p l e R s m args below meth c D wd A0 nL cells slots Q (pc) (lo) (v2 :: v1 :: v0 :: st) (M) :=
  a_callS (As := [v0, v1, v2]) B hF hl hi hC hdg rfl rfl hw (by subst hR0; exact hR) (by obtain ⟨rfl, rfl⟩ := hcs; exact ⟨Nat.zero_le _, Nat.zero_le _⟩) (fun v M9 h => by obtain ⟨rfl, rfl⟩ := h; exact kk)
theorem a_callS3v {y : MD} {h h1 lc1 index : Nat} {v0 v1 v2 : Value} {M2 : σ} (B : BS sk D cy wd A0 p s m args c own cc nL) (hR0 : R = rmK h1 lc1) (hF : CF y 3) (hl : Cond.methodLink own index y.1 ∈ GW) (hi : Cond.static y.1 ∈ GW) (hC : Con l sk D cy wd y h (34 * h) [v0, v1, v2] M (rt1 none M2)) (hdg : decode cc pc = .ok (.invokestatic index, 3)) (hw : (st.map fun v => v.category).sum ≤ 8) (hR : h + 1 ≤ h1 ∧ 8 + (y.2.2.1 + 11) + 34 * h ≤ lc1) (hcs : cells = 0 ∧ slots = 0) (kk : AW p l e R s m args below meth c D wd A0 nL cells slots Q (pc + 3) (lo) (st) (M2)) : AW p l e R s m args below meth c D wd A0 nL cells slots Q (pc) (lo) (v2 :: v1 :: v0 :: st) (M) :=
  a_callS (As := [v0, v1, v2]) B hF hl hi hC hdg rfl rfl hw (by subst hR0; exact hR) (by obtain ⟨rfl, rfl⟩ := hcs; exact ⟨Nat.zero_le _, Nat.zero_le _⟩) (fun v M9 h => by obtain ⟨rfl, rfl⟩ := h; exact kk)
theorem a_callS3p {y : MD} {h h1 lc1 index : Nat} {v0 v1 v2 : Value} {PostC : Option Value → σ → Prop} (B : BS sk D cy wd A0 p s m args c own cc nL) (hR0 : R = rmK h1 lc1) (hF : CF y 3) (hl : Cond.methodLink own index y.1 ∈ GW) (hi : Cond.static y.1 ∈ GW) (hC : Con l sk D cy wd y h (34 * h) [v0, v1, v2] M PostC) (hdg : decode cc pc = .ok (.invokestatic index, 3)) (hw : (st.map fun v => v.category).sum ≤ 8) (hR : h + 1 ≤ h1 ∧ 8 + (y.2.2.1 + 11) + 34 * h ≤ lc1) (hcs : cells = 0 ∧ slots = 0) (kk : ∀ (v : Option Value) (M9 : σ), PostC v M9 → AW p l e R s m args below meth c D wd A0 nL cells slots Q (pc + 3) (lo) (v.toList ++ st) (M9)) : AW p l e R s m args below meth c D wd A0 nL cells slots Q (pc) (lo) (v2 :: v1 :: v0 :: st) (M) :=
  a_callS (As := [v0, v1, v2]) B hF hl hi hC hdg rfl rfl hw (by subst hR0; exact hR) (by obtain ⟨rfl, rfl⟩ := hcs; exact ⟨Nat.zero_le _, Nat.zero_le _⟩) kk
theorem a_callS4r {y : MD} {h h1 lc1 index : Nat} {v0 v1 v2 v3 : Value} {r : Value} {M2 : σ} (B : BS sk D cy wd A0 p s m args c own cc nL) (hR0 : R = rmK h1 lc1) (hF : CF y 4) (hl : Cond.methodLink own index y.1 ∈ GW) (hi : Cond.static y.1 ∈ GW) (hC : Con l sk D cy wd y h (34 * h) [v0, v1, v2, v3] M (rt1 (some r) M2)) (hdg : decode cc pc = .ok (.invokestatic index, 3)) (hw : (st.map fun v => v.category).sum ≤ 8) (hR : h + 1 ≤ h1 ∧ 8 + (y.2.2.1 + 11) + 34 * h ≤ lc1) (hcs : cells = 0 ∧ slots = 0) (kk : AW p l e R s m args below meth c D wd A0 nL cells slots Q (pc + 3) (lo) (r :: st) (M2)) : AW p l e R s m args below meth c D wd A0 nL cells slots Q (pc) (lo) (v3 :: v2 :: v1 :: v0 :: st) (M) :=
  a_callS (As := [v0, v1, v2, v3]) B hF hl hi hC hdg rfl rfl hw (by subst hR0; exact hR) (by obtain ⟨rfl, rfl⟩ := hcs; exact ⟨Nat.zero_le _, Nat.zero_le _⟩) (fun v M9 h => by obtain ⟨rfl, rfl⟩ := h; exact kk)
theorem a_callS4v {y : MD} {h h1 lc1 index : Nat} {v0 v1 v2 v3 : Value} {M2 : σ} (B : BS sk D cy wd A0 p s m args c own cc nL) (hR0 : R = rmK h1 lc1) (hF : CF y 4) (hl : Cond.methodLink own index y.1 ∈ GW) (hi : Cond.static y.1 ∈ GW) (hC : Con l sk D cy wd y h (34 * h) [v0, v1, v2, v3] M (rt1 none M2)) (hdg : decode cc pc = .ok (.invokestatic index, 3)) (hw : (st.map fun v => v.category).sum ≤ 8) (hR : h + 1 ≤ h1 ∧ 8 + (y.2.2.1 + 11) + 34 * h ≤ lc1) (hcs : cells = 0 ∧ slots = 0) (kk : AW p l e R s m args below meth c D wd A0 nL cells slots Q (pc + 3) (lo) (st) (M2)) : AW p l e R s m args below meth c D wd A0 nL cells slots Q (pc) (lo) (v3 :: v2 :: v1 :: v0 :: st) (M) :=
  a_callS (As := [v0, v1, v2, v3]) B hF hl hi hC hdg rfl rfl hw (by subst hR0; exact hR) (by obtain ⟨rfl, rfl⟩ := hcs; exact ⟨Nat.zero_le _, Nat.zero_le _⟩) (fun v M9 h => by obtain ⟨rfl, rfl⟩ := h; exact kk)
theorem a_callS4p {y : MD} {h h1 lc1 index : Nat} {v0 v1 v2 v3 : Value} {PostC : Option Value → σ → Prop} (B : BS sk D cy wd A0 p s m args c own cc nL) (hR0 : R = rmK h1 lc1) (hF : CF y 4) (hl : Cond.methodLink own index y.1 ∈ GW) (hi : Cond.static y.1 ∈ GW) (hC : Con l sk D cy wd y h (34 * h) [v0, v1, v2, v3] M PostC) (hdg : decode cc pc = .ok (.invokestatic index, 3)) (hw : (st.map fun v => v.category).sum ≤ 8) (hR : h + 1 ≤ h1 ∧ 8 + (y.2.2.1 + 11) + 34 * h ≤ lc1) (hcs : cells = 0 ∧ slots = 0) (kk : ∀ (v : Option Value) (M9 : σ), PostC v M9 → AW p l e R s m args below meth c D wd A0 nL cells slots Q (pc + 3) (lo) (v.toList ++ st) (M9)) : AW p l e R s m args below meth c D wd A0 nL cells slots Q (pc) (lo) (v3 :: v2 :: v1 :: v0 :: st) (M) :=
  a_callS (As := [v0, v1, v2, v3]) B hF hl hi hC hdg rfl rfl hw (by subst hR0; exact hR) (by obtain ⟨rfl, rfl⟩ := hcs; exact ⟨Nat.zero_le _, Nat.zero_le _⟩) kk
theorem a_callS5r {y : MD} {h h1 lc1 index : Nat} {v0 v1 v2 v3 v4 : Value} {r : Value} {M2 : σ} (B : BS sk D cy wd A0 p s m args c own cc nL) (hR0 : R = rmK h1 lc1) (hF : CF y 5) (hl : Cond.methodLink own index y.1 ∈ GW) (hi : Cond.static y.1 ∈ GW) (hC : Con l sk D cy wd y h (34 * h) [v0, v1, v2, v3, v4] M (rt1 (some r) M2)) (hdg : decode cc pc = .ok (.invokestatic index, 3)) (hw : (st.map fun v => v.category).sum ≤ 8) (hR : h + 1 ≤ h1 ∧ 8 + (y.2.2.1 + 11) + 34 * h ≤ lc1) (hcs : cells = 0 ∧ slots = 0) (kk : AW p l e R s m args below meth c D wd A0 nL cells slots Q (pc + 3) (lo) (r :: st) (M2)) : AW p l e R s m args below meth c D wd A0 nL cells slots Q (pc) (lo) (v4 :: v3 :: v2 :: v1 :: v0 :: st) (M) :=
  a_callS (As := [v0, v1, v2, v3, v4]) B hF hl hi hC hdg rfl rfl hw (by subst hR0; exact hR) (by obtain ⟨rfl, rfl⟩ := hcs; exact ⟨Nat.zero_le _, Nat.zero_le _⟩) (fun v M9 h => by obtain ⟨rfl, rfl⟩ := h; exact kk)
theorem a_callS5v {y : MD} {h h1 lc1 index : Nat} {v0 v1 v2 v3 v4 : Value} {M2 : σ} (B : BS sk D cy wd A0 p s m args c own cc nL) (hR0 : R = rmK h1 lc1) (hF : CF y 5) (hl : Cond.methodLink own index y.1 ∈ GW) (hi : Cond.static y.1 ∈ GW) (hC : Con l sk D cy wd y h (34 * h) [v0, v1, v2, v3, v4] M (rt1 none M2)) (hdg : decode cc pc = .ok (.invokestatic index, 3)) (hw : (st.map fun v => v.category).sum ≤ 8) (hR : h + 1 ≤ h1 ∧ 8 + (y.2.2.1 + 11) + 34 * h ≤ lc1) (hcs : cells = 0 ∧ slots = 0) (kk : AW p l e R s m args below meth c D wd A0 nL cells slots Q (pc + 3) (lo) (st) (M2)) : AW p l e R s m args below meth c D wd A0 nL cells slots Q (pc) (lo) (v4 :: v3 :: v2 :: v1 :: v0 :: st) (M) :=
  a_callS (As := [v0, v1, v2, v3, v4]) B hF hl hi hC hdg rfl rfl hw (by subst hR0; exact hR) (by obtain ⟨rfl, rfl⟩ := hcs; exact ⟨Nat.zero_le _, Nat.zero_le _⟩) (fun v M9 h => by obtain ⟨rfl, rfl⟩ := h; exact kk)
theorem a_callS5p {y : MD} {h h1 lc1 index : Nat} {v0 v1 v2 v3 v4 : Value} {PostC : Option Value → σ → Prop} (B : BS sk D cy wd A0 p s m args c own cc nL) (hR0 : R = rmK h1 lc1) (hF : CF y 5) (hl : Cond.methodLink own index y.1 ∈ GW) (hi : Cond.static y.1 ∈ GW) (hC : Con l sk D cy wd y h (34 * h) [v0, v1, v2, v3, v4] M PostC) (hdg : decode cc pc = .ok (.invokestatic index, 3)) (hw : (st.map fun v => v.category).sum ≤ 8) (hR : h + 1 ≤ h1 ∧ 8 + (y.2.2.1 + 11) + 34 * h ≤ lc1) (hcs : cells = 0 ∧ slots = 0) (kk : ∀ (v : Option Value) (M9 : σ), PostC v M9 → AW p l e R s m args below meth c D wd A0 nL cells slots Q (pc + 3) (lo) (v.toList ++ st) (M9)) : AW p l e R s m args below meth c D wd A0 nL cells slots Q (pc) (lo) (v4 :: v3 :: v2 :: v1 :: v0 :: st) (M) :=
  a_callS (As := [v0, v1, v2, v3, v4]) B hF hl hi hC hdg rfl rfl hw (by subst hR0; exact hR) (by obtain ⟨rfl, rfl⟩ := hcs; exact ⟨Nat.zero_le _, Nat.zero_le _⟩) kk
theorem a_callSN0r {y : MD} {h h1 lc1 index : Nat} {host : String} {r : Value} {M2 : σ} (B : BS sk D cy wd A0 p s m args c own cc nL) (hR0 : R = rmK h1 lc1) (hF : CF y 0) (hl : Cond.methodLinkNest own index y.1 host ∈ NL) (hi : Cond.static y.1 ∈ GW) (hC : Con l sk D cy wd y h (34 * h) [] M (rt1 (some r) M2)) (hdg : decode cc pc = .ok (.invokestatic index, 3)) (hw : (st.map fun v => v.category).sum ≤ 8) (hR : h + 1 ≤ h1 ∧ 8 + (y.2.2.1 + 11) + 34 * h ≤ lc1) (hcs : cells = 0 ∧ slots = 0) (kk : AW p l e R s m args below meth c D wd A0 nL cells slots Q (pc + 3) (lo) (r :: st) (M2)) : AW p l e R s m args below meth c D wd A0 nL cells slots Q (pc) (lo) (st) (M) :=
  a_callSN (As := []) B hF hl hi hC hdg rfl rfl hw (by subst hR0; exact hR) (by obtain ⟨rfl, rfl⟩ := hcs; exact ⟨Nat.zero_le _, Nat.zero_le _⟩) (fun v M9 h => by obtain ⟨rfl, rfl⟩ := h; exact kk)
theorem a_callSN0v {y : MD} {h h1 lc1 index : Nat} {host : String} {M2 : σ} (B : BS sk D cy wd A0 p s m args c own cc nL) (hR0 : R = rmK h1 lc1) (hF : CF y 0) (hl : Cond.methodLinkNest own index y.1 host ∈ NL) (hi : Cond.static y.1 ∈ GW) (hC : Con l sk D cy wd y h (34 * h) [] M (rt1 none M2)) (hdg : decode cc pc = .ok (.invokestatic index, 3)) (hw : (st.map fun v => v.category).sum ≤ 8) (hR : h + 1 ≤ h1 ∧ 8 + (y.2.2.1 + 11) + 34 * h ≤ lc1) (hcs : cells = 0 ∧ slots = 0) (kk : AW p l e R s m args below meth c D wd A0 nL cells slots Q (pc + 3) (lo) (st) (M2)) : AW p l e R s m args below meth c D wd A0 nL cells slots Q (pc) (lo) (st) (M) :=
  a_callSN (As := []) B hF hl hi hC hdg rfl rfl hw (by subst hR0; exact hR) (by obtain ⟨rfl, rfl⟩ := hcs; exact ⟨Nat.zero_le _, Nat.zero_le _⟩) (fun v M9 h => by obtain ⟨rfl, rfl⟩ := h; exact kk)
theorem a_callSN0p {y : MD} {h h1 lc1 index : Nat} {host : String} {PostC : Option Value → σ → Prop} (B : BS sk D cy wd A0 p s m args c own cc nL) (hR0 : R = rmK h1 lc1) (hF : CF y 0) (hl : Cond.methodLinkNest own index y.1 host ∈ NL) (hi : Cond.static y.1 ∈ GW) (hC : Con l sk D cy wd y h (34 * h) [] M PostC) (hdg : decode cc pc = .ok (.invokestatic index, 3)) (hw : (st.map fun v => v.category).sum ≤ 8) (hR : h + 1 ≤ h1 ∧ 8 + (y.2.2.1 + 11) + 34 * h ≤ lc1) (hcs : cells = 0 ∧ slots = 0) (kk : ∀ (v : Option Value) (M9 : σ), PostC v M9 → AW p l e R s m args below meth c D wd A0 nL cells slots Q (pc + 3) (lo) (v.toList ++ st) (M9)) : AW p l e R s m args below meth c D wd A0 nL cells slots Q (pc) (lo) (st) (M) :=
  a_callSN (As := []) B hF hl hi hC hdg rfl rfl hw (by subst hR0; exact hR) (by obtain ⟨rfl, rfl⟩ := hcs; exact ⟨Nat.zero_le _, Nat.zero_le _⟩) kk
theorem a_callSN1r {y : MD} {h h1 lc1 index : Nat} {host : String} {v0 : Value} {r : Value} {M2 : σ} (B : BS sk D cy wd A0 p s m args c own cc nL) (hR0 : R = rmK h1 lc1) (hF : CF y 1) (hl : Cond.methodLinkNest own index y.1 host ∈ NL) (hi : Cond.static y.1 ∈ GW) (hC : Con l sk D cy wd y h (34 * h) [v0] M (rt1 (some r) M2)) (hdg : decode cc pc = .ok (.invokestatic index, 3)) (hw : (st.map fun v => v.category).sum ≤ 8) (hR : h + 1 ≤ h1 ∧ 8 + (y.2.2.1 + 11) + 34 * h ≤ lc1) (hcs : cells = 0 ∧ slots = 0) (kk : AW p l e R s m args below meth c D wd A0 nL cells slots Q (pc + 3) (lo) (r :: st) (M2)) : AW p l e R s m args below meth c D wd A0 nL cells slots Q (pc) (lo) (v0 :: st) (M) :=
  a_callSN (As := [v0]) B hF hl hi hC hdg rfl rfl hw (by subst hR0; exact hR) (by obtain ⟨rfl, rfl⟩ := hcs; exact ⟨Nat.zero_le _, Nat.zero_le _⟩) (fun v M9 h => by obtain ⟨rfl, rfl⟩ := h; exact kk)
theorem a_callSN1v {y : MD} {h h1 lc1 index : Nat} {host : String} {v0 : Value} {M2 : σ} (B : BS sk D cy wd A0 p s m args c own cc nL) (hR0 : R = rmK h1 lc1) (hF : CF y 1) (hl : Cond.methodLinkNest own index y.1 host ∈ NL) (hi : Cond.static y.1 ∈ GW) (hC : Con l sk D cy wd y h (34 * h) [v0] M (rt1 none M2)) (hdg : decode cc pc = .ok (.invokestatic index, 3)) (hw : (st.map fun v => v.category).sum ≤ 8) (hR : h + 1 ≤ h1 ∧ 8 + (y.2.2.1 + 11) + 34 * h ≤ lc1) (hcs : cells = 0 ∧ slots = 0) (kk : AW p l e R s m args below meth c D wd A0 nL cells slots Q (pc + 3) (lo) (st) (M2)) : AW p l e R s m args below meth c D wd A0 nL cells slots Q (pc) (lo) (v0 :: st) (M) :=
  a_callSN (As := [v0]) B hF hl hi hC hdg rfl rfl hw (by subst hR0; exact hR) (by obtain ⟨rfl, rfl⟩ := hcs; exact ⟨Nat.zero_le _, Nat.zero_le _⟩) (fun v M9 h => by obtain ⟨rfl, rfl⟩ := h; exact kk)
theorem a_callSN1p {y : MD} {h h1 lc1 index : Nat} {host : String} {v0 : Value} {PostC : Option Value → σ → Prop} (B : BS sk D cy wd A0 p s m args c own cc nL) (hR0 : R = rmK h1 lc1) (hF : CF y 1) (hl : Cond.methodLinkNest own index y.1 host ∈ NL) (hi : Cond.static y.1 ∈ GW) (hC : Con l sk D cy wd y h (34 * h) [v0] M PostC) (hdg : decode cc pc = .ok (.invokestatic index, 3)) (hw : (st.map fun v => v.category).sum ≤ 8) (hR : h + 1 ≤ h1 ∧ 8 + (y.2.2.1 + 11) + 34 * h ≤ lc1) (hcs : cells = 0 ∧ slots = 0) (kk : ∀ (v : Option Value) (M9 : σ), PostC v M9 → AW p l e R s m args below meth c D wd A0 nL cells slots Q (pc + 3) (lo) (v.toList ++ st) (M9)) : AW p l e R s m args below meth c D wd A0 nL cells slots Q (pc) (lo) (v0 :: st) (M) :=
  a_callSN (As := [v0]) B hF hl hi hC hdg rfl rfl hw (by subst hR0; exact hR) (by obtain ⟨rfl, rfl⟩ := hcs; exact ⟨Nat.zero_le _, Nat.zero_le _⟩) kk
theorem a_callSN2r {y : MD} {h h1 lc1 index : Nat} {host : String} {v0 v1 : Value} {r : Value} {M2 : σ} (B : BS sk D cy wd A0 p s m args c own cc nL) (hR0 : R = rmK h1 lc1) (hF : CF y 2) (hl : Cond.methodLinkNest own index y.1 host ∈ NL) (hi : Cond.static y.1 ∈ GW) (hC : Con l sk D cy wd y h (34 * h) [v0, v1] M (rt1 (some r) M2)) (hdg : decode cc pc = .ok (.invokestatic index, 3)) (hw : (st.map fun v => v.category).sum ≤ 8) (hR : h + 1 ≤ h1 ∧ 8 + (y.2.2.1 + 11) + 34 * h ≤ lc1) (hcs : cells = 0 ∧ slots = 0) (kk : AW p l e R s m args below meth c D wd A0 nL cells slots Q (pc + 3) (lo) (r :: st) (M2)) : AW p l e R s m args below meth c D wd A0 nL cells slots Q (pc) (lo) (v1 :: v0 :: st) (M) :=
  a_callSN (As := [v0, v1]) B hF hl hi hC hdg rfl rfl hw (by subst hR0; exact hR) (by obtain ⟨rfl, rfl⟩ := hcs; exact ⟨Nat.zero_le _, Nat.zero_le _⟩) (fun v M9 h => by obtain ⟨rfl, rfl⟩ := h; exact kk)
theorem a_callSN2v {y : MD} {h h1 lc1 index : Nat} {host : String} {v0 v1 : Value} {M2 : σ} (B : BS sk D cy wd A0 p s m args c own cc nL) (hR0 : R = rmK h1 lc1) (hF : CF y 2) (hl : Cond.methodLinkNest own index y.1 host ∈ NL) (hi : Cond.static y.1 ∈ GW) (hC : Con l sk D cy wd y h (34 * h) [v0, v1] M (rt1 none M2)) (hdg : decode cc pc = .ok (.invokestatic index, 3)) (hw : (st.map fun v => v.category).sum ≤ 8) (hR : h + 1 ≤ h1 ∧ 8 + (y.2.2.1 + 11) + 34 * h ≤ lc1) (hcs : cells = 0 ∧ slots = 0) (kk : AW p l e R s m args below meth c D wd A0 nL cells slots Q (pc + 3) (lo) (st) (M2)) : AW p l e R s m args below meth c D wd A0 nL cells slots Q (pc) (lo) (v1 :: v0 :: st) (M) :=
  a_callSN (As := [v0, v1]) B hF hl hi hC hdg rfl rfl hw (by subst hR0; exact hR) (by obtain ⟨rfl, rfl⟩ := hcs; exact ⟨Nat.zero_le _, Nat.zero_le _⟩) (fun v M9 h => by obtain ⟨rfl, rfl⟩ := h; exact kk)
theorem a_callSN2p {y : MD} {h h1 lc1 index : Nat} {host : String} {v0 v1 : Value} {PostC : Option Value → σ → Prop} (B : BS sk D cy wd A0 p s m args c own cc nL) (hR0 : R = rmK h1 lc1) (hF : CF y 2) (hl : Cond.methodLinkNest own index y.1 host ∈ NL) (hi : Cond.static y.1 ∈ GW) (hC : Con l sk D cy wd y h (34 * h) [v0, v1] M PostC) (hdg : decode cc pc = .ok (.invokestatic index, 3)) (hw : (st.map fun v => v.category).sum ≤ 8) (hR : h + 1 ≤ h1 ∧ 8 + (y.2.2.1 + 11) + 34 * h ≤ lc1) (hcs : cells = 0 ∧ slots = 0) (kk : ∀ (v : Option Value) (M9 : σ), PostC v M9 → AW p l e R s m args below meth c D wd A0 nL cells slots Q (pc + 3) (lo) (v.toList ++ st) (M9)) : AW p l e R s m args below meth c D wd A0 nL cells slots Q (pc) (lo) (v1 :: v0 :: st) (M) :=
  a_callSN (As := [v0, v1]) B hF hl hi hC hdg rfl rfl hw (by subst hR0; exact hR) (by obtain ⟨rfl, rfl⟩ := hcs; exact ⟨Nat.zero_le _, Nat.zero_le _⟩) kk
theorem a_callSN3r {y : MD} {h h1 lc1 index : Nat} {host : String} {v0 v1 v2 : Value} {r : Value} {M2 : σ} (B : BS sk D cy wd A0 p s m args c own cc nL) (hR0 : R = rmK h1 lc1) (hF : CF y 3) (hl : Cond.methodLinkNest own index y.1 host ∈ NL) (hi : Cond.static y.1 ∈ GW) (hC : Con l sk D cy wd y h (34 * h) [v0, v1, v2] M (rt1 (some r) M2)) (hdg : decode cc pc = .ok (.invokestatic index, 3)) (hw : (st.map fun v => v.category).sum ≤ 8) (hR : h + 1 ≤ h1 ∧ 8 + (y.2.2.1 + 11) + 34 * h ≤ lc1) (hcs : cells = 0 ∧ slots = 0) (kk : AW p l e R s m args below meth c D wd A0 nL cells slots Q (pc + 3) (lo) (r :: st) (M2)) : AW p l e R s m args below meth c D wd A0 nL cells slots Q (pc) (lo) (v2 :: v1 :: v0 :: st) (M) :=
  a_callSN (As := [v0, v1, v2]) B hF hl hi hC hdg rfl rfl hw (by subst hR0; exact hR) (by obtain ⟨rfl, rfl⟩ := hcs; exact ⟨Nat.zero_le _, Nat.zero_le _⟩) (fun v M9 h => by obtain ⟨rfl, rfl⟩ := h; exact kk)
theorem a_callSN3v {y : MD} {h h1 lc1 index : Nat} {host : String} {v0 v1 v2 : Value} {M2 : σ} (B : BS sk D cy wd A0 p s m args c own cc nL) (hR0 : R = rmK h1 lc1) (hF : CF y 3) (hl : Cond.methodLinkNest own index y.1 host ∈ NL) (hi : Cond.static y.1 ∈ GW) (hC : Con l sk D cy wd y h (34 * h) [v0, v1, v2] M (rt1 none M2)) (hdg : decode cc pc = .ok (.invokestatic index, 3)) (hw : (st.map fun v => v.category).sum ≤ 8) (hR : h + 1 ≤ h1 ∧ 8 + (y.2.2.1 + 11) + 34 * h ≤ lc1) (hcs : cells = 0 ∧ slots = 0) (kk : AW p l e R s m args below meth c D wd A0 nL cells slots Q (pc + 3) (lo) (st) (M2)) : AW p l e R s m args below meth c D wd A0 nL cells slots Q (pc) (lo) (v2 :: v1 :: v0 :: st) (M) :=
  a_callSN (As := [v0, v1, v2]) B hF hl hi hC hdg rfl rfl hw (by subst hR0; exact hR) (by obtain ⟨rfl, rfl⟩ := hcs; exact ⟨Nat.zero_le _, Nat.zero_le _⟩) (fun v M9 h => by obtain ⟨rfl, rfl⟩ := h; exact kk)
theorem a_callSN3p {y : MD} {h h1 lc1 index : Nat} {host : String} {v0 v1 v2 : Value} {PostC : Option Value → σ → Prop} (B : BS sk D cy wd A0 p s m args c own cc nL) (hR0 : R = rmK h1 lc1) (hF : CF y 3) (hl : Cond.methodLinkNest own index y.1 host ∈ NL) (hi : Cond.static y.1 ∈ GW) (hC : Con l sk D cy wd y h (34 * h) [v0, v1, v2] M PostC) (hdg : decode cc pc = .ok (.invokestatic index, 3)) (hw : (st.map fun v => v.category).sum ≤ 8) (hR : h + 1 ≤ h1 ∧ 8 + (y.2.2.1 + 11) + 34 * h ≤ lc1) (hcs : cells = 0 ∧ slots = 0) (kk : ∀ (v : Option Value) (M9 : σ), PostC v M9 → AW p l e R s m args below meth c D wd A0 nL cells slots Q (pc + 3) (lo) (v.toList ++ st) (M9)) : AW p l e R s m args below meth c D wd A0 nL cells slots Q (pc) (lo) (v2 :: v1 :: v0 :: st) (M) :=
  a_callSN (As := [v0, v1, v2]) B hF hl hi hC hdg rfl rfl hw (by subst hR0; exact hR) (by obtain ⟨rfl, rfl⟩ := hcs; exact ⟨Nat.zero_le _, Nat.zero_le _⟩) kk
theorem a_callSN4r {y : MD} {h h1 lc1 index : Nat} {host : String} {v0 v1 v2 v3 : Value} {r : Value} {M2 : σ} (B : BS sk D cy wd A0 p s m args c own cc nL) (hR0 : R = rmK h1 lc1) (hF : CF y 4) (hl : Cond.methodLinkNest own index y.1 host ∈ NL) (hi : Cond.static y.1 ∈ GW) (hC : Con l sk D cy wd y h (34 * h) [v0, v1, v2, v3] M (rt1 (some r) M2)) (hdg : decode cc pc = .ok (.invokestatic index, 3)) (hw : (st.map fun v => v.category).sum ≤ 8) (hR : h + 1 ≤ h1 ∧ 8 + (y.2.2.1 + 11) + 34 * h ≤ lc1) (hcs : cells = 0 ∧ slots = 0) (kk : AW p l e R s m args below meth c D wd A0 nL cells slots Q (pc + 3) (lo) (r :: st) (M2)) : AW p l e R s m args below meth c D wd A0 nL cells slots Q (pc) (lo) (v3 :: v2 :: v1 :: v0 :: st) (M) :=
  a_callSN (As := [v0, v1, v2, v3]) B hF hl hi hC hdg rfl rfl hw (by subst hR0; exact hR) (by obtain ⟨rfl, rfl⟩ := hcs; exact ⟨Nat.zero_le _, Nat.zero_le _⟩) (fun v M9 h => by obtain ⟨rfl, rfl⟩ := h; exact kk)
theorem a_callSN4v {y : MD} {h h1 lc1 index : Nat} {host : String} {v0 v1 v2 v3 : Value} {M2 : σ} (B : BS sk D cy wd A0 p s m args c own cc nL) (hR0 : R = rmK h1 lc1) (hF : CF y 4) (hl : Cond.methodLinkNest own index y.1 host ∈ NL) (hi : Cond.static y.1 ∈ GW) (hC : Con l sk D cy wd y h (34 * h) [v0, v1, v2, v3] M (rt1 none M2)) (hdg : decode cc pc = .ok (.invokestatic index, 3)) (hw : (st.map fun v => v.category).sum ≤ 8) (hR : h + 1 ≤ h1 ∧ 8 + (y.2.2.1 + 11) + 34 * h ≤ lc1) (hcs : cells = 0 ∧ slots = 0) (kk : AW p l e R s m args below meth c D wd A0 nL cells slots Q (pc + 3) (lo) (st) (M2)) : AW p l e R s m args below meth c D wd A0 nL cells slots Q (pc) (lo) (v3 :: v2 :: v1 :: v0 :: st) (M) :=
  a_callSN (As := [v0, v1, v2, v3]) B hF hl hi hC hdg rfl rfl hw (by subst hR0; exact hR) (by obtain ⟨rfl, rfl⟩ := hcs; exact ⟨Nat.zero_le _, Nat.zero_le _⟩) (fun v M9 h => by obtain ⟨rfl, rfl⟩ := h; exact kk)
theorem a_callSN4p {y : MD} {h h1 lc1 index : Nat} {host : String} {v0 v1 v2 v3 : Value} {PostC : Option Value → σ → Prop} (B : BS sk D cy wd A0 p s m args c own cc nL) (hR0 : R = rmK h1 lc1) (hF : CF y 4) (hl : Cond.methodLinkNest own index y.1 host ∈ NL) (hi : Cond.static y.1 ∈ GW) (hC : Con l sk D cy wd y h (34 * h) [v0, v1, v2, v3] M PostC) (hdg : decode cc pc = .ok (.invokestatic index, 3)) (hw : (st.map fun v => v.category).sum ≤ 8) (hR : h + 1 ≤ h1 ∧ 8 + (y.2.2.1 + 11) + 34 * h ≤ lc1) (hcs : cells = 0 ∧ slots = 0) (kk : ∀ (v : Option Value) (M9 : σ), PostC v M9 → AW p l e R s m args below meth c D wd A0 nL cells slots Q (pc + 3) (lo) (v.toList ++ st) (M9)) : AW p l e R s m args below meth c D wd A0 nL cells slots Q (pc) (lo) (v3 :: v2 :: v1 :: v0 :: st) (M) :=
  a_callSN (As := [v0, v1, v2, v3]) B hF hl hi hC hdg rfl rfl hw (by subst hR0; exact hR) (by obtain ⟨rfl, rfl⟩ := hcs; exact ⟨Nat.zero_le _, Nat.zero_le _⟩) kk
theorem a_callSN5r {y : MD} {h h1 lc1 index : Nat} {host : String} {v0 v1 v2 v3 v4 : Value} {r : Value} {M2 : σ} (B : BS sk D cy wd A0 p s m args c own cc nL) (hR0 : R = rmK h1 lc1) (hF : CF y 5) (hl : Cond.methodLinkNest own index y.1 host ∈ NL) (hi : Cond.static y.1 ∈ GW) (hC : Con l sk D cy wd y h (34 * h) [v0, v1, v2, v3, v4] M (rt1 (some r) M2)) (hdg : decode cc pc = .ok (.invokestatic index, 3)) (hw : (st.map fun v => v.category).sum ≤ 8) (hR : h + 1 ≤ h1 ∧ 8 + (y.2.2.1 + 11) + 34 * h ≤ lc1) (hcs : cells = 0 ∧ slots = 0) (kk : AW p l e R s m args below meth c D wd A0 nL cells slots Q (pc + 3) (lo) (r :: st) (M2)) : AW p l e R s m args below meth c D wd A0 nL cells slots Q (pc) (lo) (v4 :: v3 :: v2 :: v1 :: v0 :: st) (M) :=
  a_callSN (As := [v0, v1, v2, v3, v4]) B hF hl hi hC hdg rfl rfl hw (by subst hR0; exact hR) (by obtain ⟨rfl, rfl⟩ := hcs; exact ⟨Nat.zero_le _, Nat.zero_le _⟩) (fun v M9 h => by obtain ⟨rfl, rfl⟩ := h; exact kk)
theorem a_callSN5v {y : MD} {h h1 lc1 index : Nat} {host : String} {v0 v1 v2 v3 v4 : Value} {M2 : σ} (B : BS sk D cy wd A0 p s m args c own cc nL) (hR0 : R = rmK h1 lc1) (hF : CF y 5) (hl : Cond.methodLinkNest own index y.1 host ∈ NL) (hi : Cond.static y.1 ∈ GW) (hC : Con l sk D cy wd y h (34 * h) [v0, v1, v2, v3, v4] M (rt1 none M2)) (hdg : decode cc pc = .ok (.invokestatic index, 3)) (hw : (st.map fun v => v.category).sum ≤ 8) (hR : h + 1 ≤ h1 ∧ 8 + (y.2.2.1 + 11) + 34 * h ≤ lc1) (hcs : cells = 0 ∧ slots = 0) (kk : AW p l e R s m args below meth c D wd A0 nL cells slots Q (pc + 3) (lo) (st) (M2)) : AW p l e R s m args below meth c D wd A0 nL cells slots Q (pc) (lo) (v4 :: v3 :: v2 :: v1 :: v0 :: st) (M) :=
  a_callSN (As := [v0, v1, v2, v3, v4]) B hF hl hi hC hdg rfl rfl hw (by subst hR0; exact hR) (by obtain ⟨rfl, rfl⟩ := hcs; exact ⟨Nat.zero_le _, Nat.zero_le _⟩) (fun v M9 h => by obtain ⟨rfl, rfl⟩ := h; exact kk)
theorem a_callSN5p {y : MD} {h h1 lc1 index : Nat} {host : String} {v0 v1 v2 v3 v4 : Value} {PostC : Option Value → σ → Prop} (B : BS sk D cy wd A0 p s m args c own cc nL) (hR0 : R = rmK h1 lc1) (hF : CF y 5) (hl : Cond.methodLinkNest own index y.1 host ∈ NL) (hi : Cond.static y.1 ∈ GW) (hC : Con l sk D cy wd y h (34 * h) [v0, v1, v2, v3, v4] M PostC) (hdg : decode cc pc = .ok (.invokestatic index, 3)) (hw : (st.map fun v => v.category).sum ≤ 8) (hR : h + 1 ≤ h1 ∧ 8 + (y.2.2.1 + 11) + 34 * h ≤ lc1) (hcs : cells = 0 ∧ slots = 0) (kk : ∀ (v : Option Value) (M9 : σ), PostC v M9 → AW p l e R s m args below meth c D wd A0 nL cells slots Q (pc + 3) (lo) (v.toList ++ st) (M9)) : AW p l e R s m args below meth c D wd A0 nL cells slots Q (pc) (lo) (v4 :: v3 :: v2 :: v1 :: v0 :: st) (M) :=
  a_callSN (As := [v0, v1, v2, v3, v4]) B hF hl hi hC hdg rfl rfl hw (by subst hR0; exact hR) (by obtain ⟨rfl, rfl⟩ := hcs; exact ⟨Nat.zero_le _, Nat.zero_le _⟩) kk
end AWP
section AWM
variable {p : Program} {l : Launch} {e : Env} {R : Room} {s : State} {m : MethodId} {args : Array Value} {below : List Frame} {meth : Method} {c : Code} {sk : (Nat → Nat) × (Nat → Nat)} {D : va_G} {cy : Nat → ClassId} {A0 : Nat → Prop} {own : String} {cc : ByteArray} {nL cells slots : Nat} {Q : State → Prop} {pc : Nat} {lo : List (Option Value)} {st : List Value} {A : Nat → Nat} {nP : Nat} {T : Nat → CS} {X : va_W} {M : Mem}

/-- a field's link, with all that the tables say of its class -/
def FLK (own : String) (idx ci k : Nat) : Prop := ∃ (C : String) (Tb : u_T) (N : Nat) (ty : Nat → FieldType), vwCl[ci]? = some (C, Tb, N) ∧ k < N ∧ (∀ w ∈ u_ws C Tb N, w ∈ GW) ∧ (Tb k).1 = C ∧ (∀ a, a < N → ∀ b, b < N → a ≠ b → (Tb a).2.1 ≠ (Tb b).2.1) ∧ (∀ k, k < N → parseFieldDescriptor (Tb k).2.2.1 = some (ty k)) ∧ (Cond.fieldLink own idx C (Tb k).2.1 (Tb k).2.2.1 ∈ GW ∨ ∃ host, Cond.fieldLinkNest own idx C (Tb k).2.1 (Tb k).2.2.1 host ∈ NL)
def FPK (ci k : Nat) (ty : FieldType) : Prop := ∀ q : vw_C, vwCl[ci]? = some q → (q.2.1 k).2.2.2 = false ∧ parseFieldDescriptor (q.2.1 k).2.2.1 = some ty
/-- the cells of a template read apart -/
def TW (nP : Nat) (T : Nat → CS) : Prop := ∀ p, p < nP → (rdC (T p)).Nodup ∧ ∀ r ∈ rdC (T p), ∀ q, q < nP → q ≠ p → r ∉ rdC (T q)
theorem fs_set {A : Nat → Nat} {M M' : Mem} : ∀ (fs : List FS) (k : Nat) (f : FS), (fs.flatMap rdF).Nodup → fs[k]? = some f → (∀ r : Nat × Nat, r ∉ rdF f → M' r.1 r.2 = M r.1 r.2) → (fs.map (fvC A M)).set k (fvC A M' f) = fs.map (fvC A M')
  | [], k, f, _, h, _ => by simp at h
  | g :: r, 0, f, hn, h, ho => by
    rw [List.getElem?_cons_zero] at h
    cases h
    rw [List.flatMap_cons, List.nodup_append] at hn
    have key : r.map (fvC A M') = r.map (fvC A M) := by
      have h0 : ∀ q ∈ r.flatMap rdF, M' q.1 q.2 = M q.1 q.2 := fun q hq => ho q (fun hf => hn.2.2 q hf q hq rfl)
      have h1 := cvC_congr (A := A) (cy := fun _ => (0 : Nat)) (M := M) (M' := M') (.inl (0, r)) h0
      injection h1 with h2
      injection h2
    show fvC A M' g :: r.map (fvC A M) = fvC A M' g :: r.map (fvC A M')
    rw [key]
  | g :: r, k + 1, f, hn, h, ho => by
    rw [List.getElem?_cons_succ] at h
    rw [List.flatMap_cons, List.nodup_append] at hn
    have key : fvC A M' g = fvC A M g := by
      have h0 : ∀ q ∈ rdF g, M' q.1 q.2 = M q.1 q.2 := fun q hq => ho q (fun hf => hn.2.2 q hq q (List.mem_flatMap.mpr ⟨f, List.mem_of_getElem? h, hf⟩) rfl)
      have h1 := cvC_congr (A := A) (cy := fun _ => (0 : Nat)) (M := M) (M' := M') (.inl (0, [g])) (fun q hq => h0 q (by simpa [rdC] using hq))
      injection h1 with h2
      injection h2 with h3 h4
      exact (List.cons.inj h4).1
    show fvC A M g :: (r.map (fvC A M)).set k (fvC A M' f) = fvC A M' g :: r.map (fvC A M')
    rw [fs_set r k f hn.2.1 h ho, key]
theorem wl_rc {p0 ci : Nat} {fs : List FS} {q : vw_C} {C : String} (hp : p0 < nP) (hT : T p0 = .inl (ci, fs)) (hq : vwCl[ci]? = some q) (hC : q.1 = C) : RC (wl A cy nP T X) (A p0) C :=
  fun M => ⟨p0, ci, fs.map (fvC A M), q, by rw [wl_at hp, hT]; rfl, hq, hC⟩
theorem upB_off {M : Mem} {b n : Nat} {v : Int32} {r : Nat × Nat} (h : r ≠ (b, n)) : upB M b n v r.1 r.2 = M r.1 r.2 := by
  unfold upB
  rw [if_neg (fun q => h (Prod.ext q.1 q.2))]
theorem upB_on {M : Mem} {b n : Nat} {v : Int32} : upB M b n v b n = v := by unfold upB; rw [if_pos ⟨rfl, rfl⟩]


theorem a_getv {idx q0 ci k : Nat} {fs : List FS} {f : FS} (B : BS sk D cy (wl A cy nP T X) A0 p s m args c own cc nL) (F : FLK own idx ci k) (hp : q0 < nP) (hT : T q0 = .inl (ci, fs)) (hf : fs[k]? = some f) (hdg : decode cc pc = .ok (.getfield idx, 3)) (kk : AW p l e R s m args below meth c D (wl A cy nP T X) A0 nL cells slots Q (pc + 3) (lo) (fvC A M f :: st) (M)) : AW p l e R s m args below meth c D (wl A cy nP T X) A0 nL cells slots Q (pc) (lo) (.ref (A q0) :: st) (M) := by
  intro H locs ls hP hS hL
  obtain ⟨C, Tb, N, ty, h1, h2, h3, h4, h5, h6, h7⟩ := F
  have he : (wl A cy nP T X M)[q0]? = some (A q0, .inr (ci, fs.map (fvC A M))) := by rw [wl_at hp, hT]; rfl
  have hv : (fs.map (fvC A M))[k]? = some (fvC A M f) := by rw [List.getElem?_map, hf]; rfl
  rcases h7 with h7 | ⟨host, h7⟩
  · exact va_get B.1.1 B.1.2.1 B.1.2.2.2.2 h3 B.1.2.2.2.1 B.2.1 hP q0 he h1 k h2 (B.1.2.2.2.2 _ h7) (fun x hx => by rw [h4] at hx; exact hx) hv hdg (kk H locs ls hP hS hL)
  · exact va_getN B.1.1 B.1.2.1 B.1.2.2.2.2 h3 B.1.2.2.2.1 B.2.1 hP q0 he h1 k h2 (va_Nw.use rfl (B.2.2.1 _ h7)) (fun x hx => by rw [h4] at hx; exact hx) hv hdg (kk H locs ls hP hS hL)
theorem a_getI {idx q0 ci k b n : Nat} {fs : List FS} (B : BS sk D cy (wl A cy nP T X) A0 p s m args c own cc nL) (F : FLK own idx ci k) (hp : q0 < nP) (hT : T q0 = .inl (ci, fs)) (hf : fs[k]? = some (.inl (b, n))) (hdg : decode cc pc = .ok (.getfield idx, 3)) (kk : AW p l e R s m args below meth c D (wl A cy nP T X) A0 nL cells slots Q (pc + 3) (lo) (.int (M b n) :: st) (M)) : AW p l e R s m args below meth c D (wl A cy nP T X) A0 nL cells slots Q (pc) (lo) (.ref (A q0) :: st) (M) := a_getv B F hp hT hf hdg kk
theorem a_getR {idx q0 ci k q1 : Nat} {fs : List FS} (B : BS sk D cy (wl A cy nP T X) A0 p s m args c own cc nL) (F : FLK own idx ci k) (hp : q0 < nP) (hT : T q0 = .inl (ci, fs)) (hf : fs[k]? = some (.inr (.inl q1))) (hdg : decode cc pc = .ok (.getfield idx, 3)) (kk : AW p l e R s m args below meth c D (wl A cy nP T X) A0 nL cells slots Q (pc + 3) (lo) (.ref (A q1) :: st) (M)) : AW p l e R s m args below meth c D (wl A cy nP T X) A0 nL cells slots Q (pc) (lo) (.ref (A q0) :: st) (M) := a_getv B F hp hT hf hdg kk
theorem a_getL {idx q0 ci k b n : Nat} {fs : List FS} (B : BS sk D cy (wl A cy nP T X) A0 p s m args c own cc nL) (F : FLK own idx ci k) (hp : q0 < nP) (hT : T q0 = .inl (ci, fs)) (hf : fs[k]? = some (.inr (.inr (b, n)))) (hdg : decode cc pc = .ok (.getfield idx, 3)) (kk : AW p l e R s m args below meth c D (wl A cy nP T X) A0 nL cells slots Q (pc + 3) (lo) (.long (ljn (M b n) (M b (n + 1))) :: st) (M)) : AW p l e R s m args below meth c D (wl A cy nP T X) A0 nL cells slots Q (pc) (lo) (.ref (A q0) :: st) (M) := a_getv B F hp hT hf hdg kk
theorem a_putv {idx q0 ci k : Nat} {fs : List FS} {f : FS} {M' : Mem} {v : Value} {ty : FieldType} (B : BS sk D cy (wl A cy nP T X) A0 p s m args c own cc nL) (hW : TW nP T) (F : FLK own idx ci k) (G : FPK ci k ty) (hp : q0 < nP) (hT : T q0 = .inl (ci, fs)) (hf : fs[k]? = some f) (hn : narrow ty v = v) (hfit : fits ty v = true) (hv : fvC A M' f = v) (ho : ∀ r : Nat × Nat, r ∉ rdF f → M' r.1 r.2 = M r.1 r.2) (hdg : decode cc pc = .ok (.putfield idx, 3)) (kk : AW p l e R s m args below meth c D (wl A cy nP T X) A0 nL cells slots Q (pc + 3) (lo) (st) (M')) : AW p l e R s m args below meth c D (wl A cy nP T X) A0 nL cells slots Q (pc) (lo) (v :: .ref (A q0) :: st) (M) := by
  intro H locs ls hP hS hL
  obtain ⟨C, Tb, N, ty0, h1, h2, h3, h4, h5, h6, h7⟩ := F
  obtain ⟨g1, g2⟩ := G _ h1
  have he : (wl A cy nP T X M)[q0]? = some (A q0, .inr (ci, fs.map (fvC A M))) := by rw [wl_at hp, hT]; rfl
  have hkl : k < (fs.map (fvC A M)).length := by rw [List.length_map]; exact (List.getElem?_eq_some_iff.mp hf).1
  obtain ⟨w1, w2⟩ := hW q0 hp
  rw [hT] at w1 w2
  have hset : (wl A cy nP T X M).set q0 (A q0, .inr (ci, (fs.map (fvC A M)).set k v)) = wl A cy nP T X M' := by
    refine wl_set hp ?_ (fun q hq hne => ?_)
    · rw [hT, ← hv, fs_set fs k f w1 hf ho]
      rfl
    · refine cvC_congr _ (fun r hr => ho r (fun hrf => w2 r (List.mem_flatMap.mpr ⟨f, List.mem_of_getElem? hf, hrf⟩) q hq hne hr))
  rcases h7 with h7 | ⟨host, h7⟩
  · exact va_put B.1.1 B.1.2.1 B.1.2.2.2.2 h3 ty0 h6 h5 B.1.2.2.2.1 B.2.1 hP (B.2.2.2.1 M) hS q0 he h1 k h2 (B.1.2.2.2.2 _ h7) (fun x hx => by rw [h4] at hx; exact hx) g1 g2 hn hfit hkl hdg (fun H1 locs1 hP1 _ hS1 => kk H1 locs1 ls (by rw [← hset]; exact hP1) hS1 hL)
  · exact va_putN B.1.1 B.1.2.1 B.1.2.2.2.2 h3 ty0 h6 h5 B.1.2.2.2.1 B.2.1 hP (B.2.2.2.1 M) hS q0 he h1 k h2 (va_Nw.use rfl (B.2.2.1 _ h7)) (fun x hx => by rw [h4] at hx; exact hx) g1 g2 hn hfit hkl hdg (fun H1 locs1 hP1 _ hS1 => kk H1 locs1 ls (by rw [← hset]; exact hP1) hS1 hL)
theorem a_putI {idx q0 ci k b n : Nat} {fs : List FS} {x : Int32} (B : BS sk D cy (wl A cy nP T X) A0 p s m args c own cc nL) (hW : TW nP T) (F : FLK own idx ci k) (G : FPK ci k .int) (hp : q0 < nP) (hT : T q0 = .inl (ci, fs)) (hf : fs[k]? = some (.inl (b, n))) (hdg : decode cc pc = .ok (.putfield idx, 3)) (kk : AW p l e R s m args below meth c D (wl A cy nP T X) A0 nL cells slots Q (pc + 3) (lo) (st) (upB M b n x)) : AW p l e R s m args below meth c D (wl A cy nP T X) A0 nL cells slots Q (pc) (lo) (.int x :: .ref (A q0) :: st) (M) :=
  a_putv B hW F G hp hT hf rfl rfl (congrArg Value.int upB_on) (fun r hr => upB_off (fun e1 => hr (by rw [e1]; exact List.mem_singleton.mpr rfl))) hdg kk
theorem a_putZ {idx q0 ci k b n : Nat} {fs : List FS} {x : Int32} (B : BS sk D cy (wl A cy nP T X) A0 p s m args c own cc nL) (hW : TW nP T) (F : FLK own idx ci k) (G : FPK ci k .boolean) (hp : q0 < nP) (hT : T q0 = .inl (ci, fs)) (hf : fs[k]? = some (.inl (b, n))) (hn : narrow .boolean (.int x) = .int x) (hfit : fits .boolean (.int x) = true) (hdg : decode cc pc = .ok (.putfield idx, 3)) (kk : AW p l e R s m args below meth c D (wl A cy nP T X) A0 nL cells slots Q (pc + 3) (lo) (st) (upB M b n x)) : AW p l e R s m args below meth c D (wl A cy nP T X) A0 nL cells slots Q (pc) (lo) (.int x :: .ref (A q0) :: st) (M) :=
  a_putv B hW F G hp hT hf hn hfit (congrArg Value.int upB_on) (fun r hr => upB_off (fun e1 => hr (by rw [e1]; exact List.mem_singleton.mpr rfl))) hdg kk
theorem a_putL {idx q0 ci k b n : Nat} {fs : List FS} {x : Int64} (B : BS sk D cy (wl A cy nP T X) A0 p s m args c own cc nL) (hW : TW nP T) (F : FLK own idx ci k) (G : FPK ci k .long) (hp : q0 < nP) (hT : T q0 = .inl (ci, fs)) (hf : fs[k]? = some (.inr (.inr (b, n)))) (hdg : decode cc pc = .ok (.putfield idx, 3)) (kk : AW p l e R s m args below meth c D (wl A cy nP T X) A0 nL cells slots Q (pc + 3) (lo) (st) (upB (upB M b n (lhi x)) b (n + 1) (llo x))) : AW p l e R s m args below meth c D (wl A cy nP T X) A0 nL cells slots Q (pc) (lo) (.long x :: .ref (A q0) :: st) (M) := by
  refine a_putv B hW F G hp hT hf rfl rfl ?_ (fun r hr => ?_) hdg kk
  · show Value.long (ljn (upB (upB M b n (lhi x)) b (n + 1) (llo x) b n) (upB (upB M b n (lhi x)) b (n + 1) (llo x) b (n + 1))) = Value.long x
    rw [upB_on, show upB (upB M b n (lhi x)) b (n + 1) (llo x) b n = lhi x by unfold upB; simp, ljn_s]
  · rw [upB_off (fun e1 => hr (by rw [e1]; exact List.mem_cons_of_mem _ (List.mem_singleton.mpr rfl))), upB_off (fun e1 => hr (by rw [e1]; exact List.mem_cons_self))]
theorem a_iald {q0 b o len : Nat} {x : Int32} (n : Nat) (B : BS sk D cy (wl A cy nP T X) A0 p s m args c own cc nL) (hp : q0 < nP) (hT : T q0 = .inr (.inl (0, b, o, len))) (hx : x = nI n) (hn : n < len) (hlen : len < 2 ^ 31) (hdg : decode cc pc = .ok (.iaload, 1)) (kk : AW p l e R s m args below meth c D (wl A cy nP T X) A0 nL cells slots Q (pc + 1) (lo) (.int (M b (o + n)) :: st) (M)) : AW p l e R s m args below meth c D (wl A cy nP T X) A0 nL cells slots Q (pc) (lo) (.int x :: .ref (A q0) :: st) (M) := by
  intro H locs ls hP hS hL
  have he : (wl A cy nP T X M)[q0]? = some (A q0, .inl (cy 0, len, .inl (fun j => if j < len then M b (o + j) else 0))) := by rw [wl_at hp, hT]; rfl
  subst hx
  refine va_iald B.1.1 B.1.2.1 B.2.1 hP q0 0 he rfl (vp_in_nI hn hlen) hdg ?_
  rw [nI_clamp (by omega)]
  show W p l e R s m args below meth c H locs cells slots Q (F0 m (pc + 1) ls (.int (if n < len then M b (o + n) else 0) :: st))
  rw [if_pos hn]
  exact kk H locs ls hP hS hL
theorem a_bald {q0 b o len : Nat} {x : Int32} (n : Nat) (B : BS sk D cy (wl A cy nP T X) A0 p s m args c own cc nL) (hp : q0 < nP) (hT : T q0 = .inr (.inl (1, b, o, len))) (hx : x = nI n) (hn : n < len) (hlen : len < 2 ^ 31) (hdg : decode cc pc = .ok (.baload, 1)) (kk : AW p l e R s m args below meth c D (wl A cy nP T X) A0 nL cells slots Q (pc + 1) (lo) (.int (M b (o + n)) :: st) (M)) : AW p l e R s m args below meth c D (wl A cy nP T X) A0 nL cells slots Q (pc) (lo) (.int x :: .ref (A q0) :: st) (M) := by
  intro H locs ls hP hS hL
  have he : (wl A cy nP T X M)[q0]? = some (A q0, .inl (cy 1, len, .inl (fun j => if j < len then M b (o + j) else 0))) := by rw [wl_at hp, hT]; rfl
  subst hx
  refine va_bald B.1.1 B.1.2.1 B.2.1 hP q0 1 he rfl (vp_in_nI hn hlen) hdg ?_
  rw [nI_clamp (by omega)]
  show W p l e R s m args below meth c H locs cells slots Q (F0 m (pc + 1) ls (.int (if n < len then M b (o + n) else 0) :: st))
  rw [if_pos hn]
  exact kk H locs ls hP hS hL
theorem arrW_set {q0 ty b o len n : Nat} {x : Int32} (hW : TW nP T) (hp : q0 < nP) (hT : T q0 = .inr (.inl (ty, b, o, len))) (hn : n < len) : (wl A cy nP T X M).set q0 (A q0, .inl (cy ty, len, .inl (upd (fun j => if j < len then M b (o + j) else 0) n x))) = wl A cy nP T X (upB M b (o + n) x) := by
  obtain ⟨w1, w2⟩ := hW q0 hp
  rw [hT] at w1 w2
  have hin : (b, o + n) ∈ rdC (.inr (.inl (ty, b, o, len))) := List.mem_map.mpr ⟨n, List.mem_range.mpr hn, rfl⟩
  refine wl_set hp ?_ (fun q hq hne => cvC_congr _ (fun r hr => upB_off (fun e1 => w2 _ hin q hq hne (by rw [← e1]; exact hr))))
  rw [hT]
  show Sum.inl (cy ty, len, Sum.inl _) = Sum.inl (cy ty, len, Sum.inl _)
  congr 3
  congr 1
  funext j
  by_cases hj : j = n
  · subst hj
    rw [pk_us, if_pos hn, upB_on]
  · rw [pk_un hj]
    by_cases hl : j < len
    · rw [if_pos hl, if_pos hl]
      exact (upB_off (r := (b, o + j)) (fun e1 => hj (by have := congrArg Prod.snd e1; simp at this; omega))).symm
    · rw [if_neg hl, if_neg hl]
theorem a_iast {q0 b o len : Nat} {x v : Int32} (n : Nat) (B : BS sk D cy (wl A cy nP T X) A0 p s m args c own cc nL) (hW : TW nP T) (hp : q0 < nP) (hT : T q0 = .inr (.inl (0, b, o, len))) (hx : x = nI n) (hn : n < len) (hlen : len < 2 ^ 31) (hdg : decode cc pc = .ok (.iastore, 1)) (kk : AW p l e R s m args below meth c D (wl A cy nP T X) A0 nL cells slots Q (pc + 1) (lo) (st) (upB M b (o + n) v)) : AW p l e R s m args below meth c D (wl A cy nP T X) A0 nL cells slots Q (pc) (lo) (.int v :: .int x :: .ref (A q0) :: st) (M) := by
  intro H locs ls hP hS hL
  have he : (wl A cy nP T X M)[q0]? = some (A q0, .inl (cy 0, len, .inl (fun j => if j < len then M b (o + j) else 0))) := by rw [wl_at hp, hT]; rfl
  subst hx
  refine va_iast B.1.1 B.1.2.1 B.2.1 hP (B.2.2.2.1 M) hS q0 0 he rfl (vp_in_nI hn hlen) hdg (fun H1 locs1 hP1 _ hS1 => kk H1 locs1 ls ?_ hS1 hL)
  rw [nI_clamp (by omega), arrW_set hW hp hT hn] at hP1
  exact hP1
theorem a_bast {q0 b o len : Nat} {x v : Int32} (n : Nat) (B : BS sk D cy (wl A cy nP T X) A0 p s m args c own cc nL) (hW : TW nP T) (hp : q0 < nP) (hT : T q0 = .inr (.inl (1, b, o, len))) (hx : x = nI n) (hn : n < len) (hlen : len < 2 ^ 31) (hdg : decode cc pc = .ok (.bastore, 1)) (kk : AW p l e R s m args below meth c D (wl A cy nP T X) A0 nL cells slots Q (pc + 1) (lo) (st) (upB M b (o + n) v.toInt8.toInt32)) : AW p l e R s m args below meth c D (wl A cy nP T X) A0 nL cells slots Q (pc) (lo) (.int v :: .int x :: .ref (A q0) :: st) (M) := by
  intro H locs ls hP hS hL
  have he : (wl A cy nP T X M)[q0]? = some (A q0, .inl (cy 1, len, .inl (fun j => if j < len then M b (o + j) else 0))) := by rw [wl_at hp, hT]; rfl
  subst hx
  refine va_bast B.1.1 B.1.2.1 B.2.1 hP (B.2.2.2.1 M) hS q0 1 he rfl (vp_in_nI hn hlen) hdg (fun H1 locs1 hP1 _ hS1 => kk H1 locs1 ls ?_ hS1 hL)
  rw [nI_clamp (by omega), vp_nar_byte, arrW_set hW hp hT hn] at hP1
  exact hP1
theorem a_aald {q0 ct q1 : Nat} {ps : List Nat} {x : Int32} {C : String} (n t0 : Nat) (B : BS sk D cy (wl A cy nP T X) A0 p s m args c own cc nL) (hp : q0 < nP) (hT : T q0 = .inr (.inr (ct, ps))) (ht : (tysC cy)[t0]? = some (cy ct, .object C)) (hx : x = nI n) (hn : ps[n]? = some q1) (hlen : ps.length < 2 ^ 31) (hdg : decode cc pc = .ok (.aaload, 1)) (kk : AW p l e R s m args below meth c D (wl A cy nP T X) A0 nL cells slots Q (pc + 1) (lo) (.ref (A q1) :: st) (M)) : AW p l e R s m args below meth c D (wl A cy nP T X) A0 nL cells slots Q (pc) (lo) (.int x :: .ref (A q0) :: st) (M) := by
  intro H locs ls hP hS hL
  have he : (wl A cy nP T X M)[q0]? = some (A q0, .inl (cy ct, ps.length, .inr (.inr (.inr (.inr (fun j => (ps[j]?).map A)))))) := by rw [wl_at hp, hT]; rfl
  have hn1 := (List.getElem?_eq_some_iff.mp hn).1
  subst hx
  refine va_aldq B.1.1 B.1.2.1 B.2.1 hP q0 t0 he ht (vp_in_nI hn1 hlen) hdg ?_
  rw [nI_clamp (by omega), hn]
  exact kk H locs ls hP hS hL
/-- a stretch of one bank comes to a stretch of another -/
def cpB (M : Mem) (b0 s0 b1 d0 n : Nat) : Mem := fun b' n' => if b' = b1 ∧ d0 ≤ n' ∧ n' < d0 + n then M b0 (s0 + (n' - d0)) else M b' n'
theorem a_acopy {q0 q1 b0 o0 l0 b1 o1 l1 : Nat} {x0 x1 xn : Int32} (s0 d0 n : Nat) {index : Nat} (B : BS sk D cy (wl A cy nP T X) A0 p s m args c own cc nL) (hW : TW nP T) (hp0 : q0 < nP) (hT0 : T q0 = .inr (.inl (0, b0, o0, l0))) (hp1 : q1 < nP) (hT1 : T q1 = .inr (.inl (0, b1, o1, l1))) (h0 : x0 = nI s0) (h1 : x1 = nI d0) (hn : xn = nI n) (hs : s0 + n ≤ l0) (hd : d0 + n ≤ l1) (hl0 : l0 < 2 ^ 31) (hl1 : l1 < 2 ^ 31)
    (hl : Cond.methodLink own index arraycopyName ∈ GW) (hnat : Cond.native arraycopyName ∈ GW) (hstat : Cond.static arraycopyName ∈ GW) (hini : Cond.initialized "java/lang/System" ∈ GW) (hw : (st.map fun v => v.category).sum + (nativeFrameWords "java/lang/System" "arraycopy" 5 + 11) ≤ R.locals) (hfr : 1 ≤ R.frames) (hdg : decode cc pc = .ok (.invokestatic index, 3))
    (kk : AW p l e R s m args below meth c D (wl A cy nP T X) A0 nL cells slots Q (pc + 3) (lo) (st) (cpB M b0 (o0 + s0) b1 (o1 + d0) n)) : AW p l e R s m args below meth c D (wl A cy nP T X) A0 nL cells slots Q (pc) (lo) (.int xn :: .int x1 :: .ref (A q1) :: .int x0 :: .ref (A q0) :: st) (M) := by
  intro H locs ls hP hS hL
  have he0 : (wl A cy nP T X M)[q0]? = some (A q0, .inl (cy 0, l0, .inl (fun j => if j < l0 then M b0 (o0 + j) else 0))) := by rw [wl_at hp0, hT0]; rfl
  have he1 : (wl A cy nP T X M)[q1]? = some (A q1, .inl (cy 0, l1, .inl (fun j => if j < l1 then M b1 (o1 + j) else 0))) := by rw [wl_at hp1, hT1]; rfl
  subst h0; subst h1; subst hn
  have k0 : (nI s0).toNatClampNeg = s0 := nI_clamp (by omega)
  have k1 : (nI d0).toNatClampNeg = d0 := nI_clamp (by omega)
  have k2 : (nI n).toNatClampNeg = n := nI_clamp (by omega)
  obtain ⟨w1, w2⟩ := hW q1 hp1
  rw [hT1] at w1 w2
  refine va_copyi B.1.1 B.1.2.1 (B.1.2.2.1.trans hL.1.symm) B.1.2.2.2.1 (B.1.2.2.2.2 _ hl) (B.1.2.2.2.2 _ hnat) (B.1.2.2.2.2 _ hstat) (B.1.2.2.2.2 _ hini) B.2.1 hP (B.2.2.2.1 M) hS q0 q1 0 0 he0 he1 rfl rfl rfl (nI_pos (by omega)) (nI_pos (by omega)) (nI_pos (by omega)) (by rw [k0, k2]; exact hs) (by rw [k1, k2]; exact hd) (fun _ _ => rfl) hfr hw hdg (fun H1 locs1 hP1 _ hS1 => kk H1 locs1 ls ?_ hS1 hL)
  rw [k0, k1, k2] at hP1
  have hin : ∀ j, j < n → (b1, o1 + (d0 + j)) ∈ rdC (.inr (.inl (0, b1, o1, l1))) := fun j hj => List.mem_map.mpr ⟨d0 + j, List.mem_range.mpr (show d0 + j < l1 by omega), rfl⟩
  have hset : (wl A cy nP T X M).set q1 (A q1, .inl (cy 0, l1, .inl (va_cpy (fun j => if j < l0 then M b0 (o0 + j) else 0) (fun j => if j < l1 then M b1 (o1 + j) else 0) s0 d0 n))) = wl A cy nP T X (cpB M b0 (o0 + s0) b1 (o1 + d0) n) := by
    refine wl_set hp1 ?_ (fun q hq hne => cvC_congr _ (fun r hr => ?_))
    · rw [hT1]
      show Sum.inl (cy 0, l1, Sum.inl _) = Sum.inl (cy 0, l1, Sum.inl _)
      congr 3
      congr 1
      funext j
      unfold cpB va_cpy
      dsimp only
      by_cases hj : d0 ≤ j ∧ j < d0 + n
      · rw [if_pos hj, if_pos (show s0 + (j - d0) < l0 by omega), if_pos (show j < l1 by omega), if_pos ⟨rfl, by omega, by omega⟩]
        congr 1
        omega
      · rw [if_neg hj]
        by_cases hjl : j < l1
        · rw [if_pos hjl, if_pos hjl, if_neg (fun q => hj ⟨by omega, by omega⟩)]
        · rw [if_neg hjl, if_neg hjl]
    · unfold cpB
      rw [if_neg]
      intro q2
      refine w2 _ (hin (r.2 - (o1 + d0)) (by omega)) q hq hne ?_
      have : r = (b1, o1 + (d0 + (r.2 - (o1 + d0)))) := Prod.ext q2.1 (by simp; omega)
      rw [← this]
      exact hr
  rw [← hset]
  exact hP1

end AWM
end
