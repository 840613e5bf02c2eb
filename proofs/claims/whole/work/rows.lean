section
-- ===== PART A: goes FIRST, ahead of the names: the tables' words, and 'selects' of the private methods out of them =====
/-- a private method of a class that the tables say can be made, by its rows of tables_1 -/
def lw_okq (q : MethodName × Nat) : Prop := (q.1.cls ≠ "java/lang/invoke/MethodHandle" ∧ q.1.cls ≠ "java/lang/invoke/VarHandle") ∧ Cond.instantiable q.1.cls q.2 ∈ tables_1 ∧ Cond.privateMethod q.1 ∈ tables_1 ∧ Cond.instanceMethod q.1 ∈ tables_1
theorem lw_p0 : lw_okq (⟨"DimBooks$Script", "skipBlanks", "()V"⟩, 5) := ⟨⟨by decide +kernel, by decide +kernel⟩, List.mem_of_getElem? (i := 26) (by decide +kernel), List.mem_of_getElem? (i := 278) (by decide +kernel), List.mem_of_getElem? (i := 279) (by decide +kernel)⟩
theorem lw_p1 : lw_okq (⟨"DimBooks$Script", "parseClause", "(LDimBooks$Library;)V"⟩, 5) := ⟨⟨by decide +kernel, by decide +kernel⟩, List.mem_of_getElem? (i := 26) (by decide +kernel), List.mem_of_getElem? (i := 282) (by decide +kernel), List.mem_of_getElem? (i := 283) (by decide +kernel)⟩
theorem lw_p2 : lw_okq (⟨"DimBooks$Script", "wordEnd", "()I"⟩, 5) := ⟨⟨by decide +kernel, by decide +kernel⟩, List.mem_of_getElem? (i := 26) (by decide +kernel), List.mem_of_getElem? (i := 286) (by decide +kernel), List.mem_of_getElem? (i := 287) (by decide +kernel)⟩
theorem lw_p3 : lw_okq (⟨"DimBooks$Script", "spells", "(IILjava/lang/String;)Z"⟩, 5) := ⟨⟨by decide +kernel, by decide +kernel⟩, List.mem_of_getElem? (i := 26) (by decide +kernel), List.mem_of_getElem? (i := 291) (by decide +kernel), List.mem_of_getElem? (i := 292) (by decide +kernel)⟩
theorem lw_p4 : lw_okq (⟨"DimBooks$Script", "parseLine", "(LDimBooks$Library;I)V"⟩, 5) := ⟨⟨by decide +kernel, by decide +kernel⟩, List.mem_of_getElem? (i := 26) (by decide +kernel), List.mem_of_getElem? (i := 343) (by decide +kernel), List.mem_of_getElem? (i := 344) (by decide +kernel)⟩
theorem lw_p5 : lw_okq (⟨"DimBooks$Script", "fail", "(II)V"⟩, 5) := ⟨⟨by decide +kernel, by decide +kernel⟩, List.mem_of_getElem? (i := 26) (by decide +kernel), List.mem_of_getElem? (i := 347) (by decide +kernel), List.mem_of_getElem? (i := 348) (by decide +kernel)⟩
theorem lw_p6 : lw_okq (⟨"DimBooks$Script", "takeNumber", "(II)I"⟩, 5) := ⟨⟨by decide +kernel, by decide +kernel⟩, List.mem_of_getElem? (i := 26) (by decide +kernel), List.mem_of_getElem? (i := 351) (by decide +kernel), List.mem_of_getElem? (i := 352) (by decide +kernel)⟩
theorem lw_p7 : lw_okq (⟨"DimBooks$Script", "takeEnd", "()V"⟩, 5) := ⟨⟨by decide +kernel, by decide +kernel⟩, List.mem_of_getElem? (i := 26) (by decide +kernel), List.mem_of_getElem? (i := 358) (by decide +kernel), List.mem_of_getElem? (i := 359) (by decide +kernel)⟩
theorem lw_p8 : lw_okq (⟨"DimBooks$Script", "parseReader", "(LDimBooks$Library;I)V"⟩, 5) := ⟨⟨by decide +kernel, by decide +kernel⟩, List.mem_of_getElem? (i := 26) (by decide +kernel), List.mem_of_getElem? (i := 367) (by decide +kernel), List.mem_of_getElem? (i := 368) (by decide +kernel)⟩
theorem lw_p9 : lw_okq (⟨"DimBooks$Script", "takeKind", "()I"⟩, 5) := ⟨⟨by decide +kernel, by decide +kernel⟩, List.mem_of_getElem? (i := 26) (by decide +kernel), List.mem_of_getElem? (i := 371) (by decide +kernel), List.mem_of_getElem? (i := 372) (by decide +kernel)⟩
theorem lw_p10 : lw_okq (⟨"DimBooks$Script", "parseError", "(LDimBooks$Library;I)V"⟩, 5) := ⟨⟨by decide +kernel, by decide +kernel⟩, List.mem_of_getElem? (i := 26) (by decide +kernel), List.mem_of_getElem? (i := 385) (by decide +kernel), List.mem_of_getElem? (i := 386) (by decide +kernel)⟩
theorem lw_p11 : lw_okq (⟨"DimBooks$State", "pagesLeftWith", "(II)I"⟩, 12) := ⟨⟨by decide +kernel, by decide +kernel⟩, List.mem_of_getElem? (i := 98) (by decide +kernel), List.mem_of_getElem? (i := 425) (by decide +kernel), List.mem_of_getElem? (i := 426) (by decide +kernel)⟩
theorem lw_p12 : lw_okq (⟨"DimBooks$State", "isLeft", "(II)Z"⟩, 12) := ⟨⟨by decide +kernel, by decide +kernel⟩, List.mem_of_getElem? (i := 98) (by decide +kernel), List.mem_of_getElem? (i := 429) (by decide +kernel), List.mem_of_getElem? (i := 430) (by decide +kernel)⟩
theorem lw_p13 : lw_okq (⟨"DimBooks$State", "daysAhead", "(I)I"⟩, 12) := ⟨⟨by decide +kernel, by decide +kernel⟩, List.mem_of_getElem? (i := 98) (by decide +kernel), List.mem_of_getElem? (i := 433) (by decide +kernel), List.mem_of_getElem? (i := 434) (by decide +kernel)⟩
theorem lw_p14 : lw_okq (⟨"DimBooks$State", "variantAt", "(III)I"⟩, 12) := ⟨⟨by decide +kernel, by decide +kernel⟩, List.mem_of_getElem? (i := 98) (by decide +kernel), List.mem_of_getElem? (i := 440) (by decide +kernel), List.mem_of_getElem? (i := 441) (by decide +kernel)⟩
theorem lw_p15 : lw_okq (⟨"DimBooks$State", "knowersOf", "(II)I"⟩, 12) := ⟨⟨by decide +kernel, by decide +kernel⟩, List.mem_of_getElem? (i := 98) (by decide +kernel), List.mem_of_getElem? (i := 489) (by decide +kernel), List.mem_of_getElem? (i := 490) (by decide +kernel)⟩
def lw_privs_1 : List (MethodName × Nat) := [(⟨"DimBooks$Script", "skipBlanks", "()V"⟩, 5), (⟨"DimBooks$Script", "parseClause", "(LDimBooks$Library;)V"⟩, 5), (⟨"DimBooks$Script", "wordEnd", "()I"⟩, 5), (⟨"DimBooks$Script", "spells", "(IILjava/lang/String;)Z"⟩, 5), (⟨"DimBooks$Script", "parseLine", "(LDimBooks$Library;I)V"⟩, 5), (⟨"DimBooks$Script", "fail", "(II)V"⟩, 5), (⟨"DimBooks$Script", "takeNumber", "(II)I"⟩, 5), (⟨"DimBooks$Script", "takeEnd", "()V"⟩, 5), (⟨"DimBooks$Script", "parseReader", "(LDimBooks$Library;I)V"⟩, 5), (⟨"DimBooks$Script", "takeKind", "()I"⟩, 5), (⟨"DimBooks$Script", "parseError", "(LDimBooks$Library;I)V"⟩, 5), (⟨"DimBooks$State", "pagesLeftWith", "(II)I"⟩, 12), (⟨"DimBooks$State", "isLeft", "(II)Z"⟩, 12), (⟨"DimBooks$State", "daysAhead", "(I)I"⟩, 12), (⟨"DimBooks$State", "variantAt", "(III)I"⟩, 12), (⟨"DimBooks$State", "knowersOf", "(II)I"⟩, 12)]
theorem lw_r1 : ∀ q ∈ lw_privs_1, lw_okq q := List.forall_mem_cons.mpr ⟨lw_p0, List.forall_mem_cons.mpr ⟨lw_p1, List.forall_mem_cons.mpr ⟨lw_p2, List.forall_mem_cons.mpr ⟨lw_p3, List.forall_mem_cons.mpr ⟨lw_p4, List.forall_mem_cons.mpr ⟨lw_p5, List.forall_mem_cons.mpr ⟨lw_p6, List.forall_mem_cons.mpr ⟨lw_p7, List.forall_mem_cons.mpr ⟨lw_p8, List.forall_mem_cons.mpr ⟨lw_p9, List.forall_mem_cons.mpr ⟨lw_p10, List.forall_mem_cons.mpr ⟨lw_p11, List.forall_mem_cons.mpr ⟨lw_p12, List.forall_mem_cons.mpr ⟨lw_p13, List.forall_mem_cons.mpr ⟨lw_p14, List.forall_mem_cons.mpr ⟨lw_p15, fun _ h => absurd h List.not_mem_nil⟩⟩⟩⟩⟩⟩⟩⟩⟩⟩⟩⟩⟩⟩⟩⟩
theorem lw_p16 : lw_okq (⟨"DimBooks$State", "draw", "(I)I"⟩, 12) := ⟨⟨by decide +kernel, by decide +kernel⟩, List.mem_of_getElem? (i := 98) (by decide +kernel), List.mem_of_getElem? (i := 563) (by decide +kernel), List.mem_of_getElem? (i := 564) (by decide +kernel)⟩
theorem lw_p17 : lw_okq (⟨"DimBooks", "chooseFor", "(II)V"⟩, 12) := ⟨⟨by decide +kernel, by decide +kernel⟩, List.mem_of_getElem? (i := 18) (by decide +kernel), List.mem_of_getElem? (i := 651) (by decide +kernel), List.mem_of_getElem? (i := 652) (by decide +kernel)⟩
theorem lw_p18 : lw_okq (⟨"DimBooks", "fewestToKnow", "(II)I"⟩, 12) := ⟨⟨by decide +kernel, by decide +kernel⟩, List.mem_of_getElem? (i := 18) (by decide +kernel), List.mem_of_getElem? (i := 674) (by decide +kernel), List.mem_of_getElem? (i := 675) (by decide +kernel)⟩
theorem lw_p19 : lw_okq (⟨"DimBooks", "pagesAllow", "(II)Z"⟩, 12) := ⟨⟨by decide +kernel, by decide +kernel⟩, List.mem_of_getElem? (i := 18) (by decide +kernel), List.mem_of_getElem? (i := 687) (by decide +kernel), List.mem_of_getElem? (i := 688) (by decide +kernel)⟩
theorem lw_p20 : lw_okq (⟨"DimBooksModel", "here", "()I"⟩, 25) := ⟨⟨by decide +kernel, by decide +kernel⟩, List.mem_of_getElem? (i := 764) (by decide +kernel), List.mem_of_getElem? (i := 862) (by decide +kernel), List.mem_of_getElem? (i := 863) (by decide +kernel)⟩
theorem lw_p21 : lw_okq (⟨"DimBooksModel", "takeClause", "()V"⟩, 25) := ⟨⟨by decide +kernel, by decide +kernel⟩, List.mem_of_getElem? (i := 764) (by decide +kernel), List.mem_of_getElem? (i := 866) (by decide +kernel), List.mem_of_getElem? (i := 867) (by decide +kernel)⟩
theorem lw_p22 : lw_okq (⟨"DimBooksModel", "takeWord", "()V"⟩, 25) := ⟨⟨by decide +kernel, by decide +kernel⟩, List.mem_of_getElem? (i := 764) (by decide +kernel), List.mem_of_getElem? (i := 870) (by decide +kernel), List.mem_of_getElem? (i := 871) (by decide +kernel)⟩
theorem lw_p23 : lw_okq (⟨"DimBooksModel", "isWord", "(IIIIIIII)Z"⟩, 25) := ⟨⟨by decide +kernel, by decide +kernel⟩, List.mem_of_getElem? (i := 764) (by decide +kernel), List.mem_of_getElem? (i := 876) (by decide +kernel), List.mem_of_getElem? (i := 877) (by decide +kernel)⟩
theorem lw_p24 : lw_okq (⟨"DimBooksModel", "want", "(ZII)Z"⟩, 25) := ⟨⟨by decide +kernel, by decide +kernel⟩, List.mem_of_getElem? (i := 764) (by decide +kernel), List.mem_of_getElem? (i := 880) (by decide +kernel), List.mem_of_getElem? (i := 881) (by decide +kernel)⟩
theorem lw_p25 : lw_okq (⟨"DimBooksModel", "takeNumber", "(II)I"⟩, 25) := ⟨⟨by decide +kernel, by decide +kernel⟩, List.mem_of_getElem? (i := 764) (by decide +kernel), List.mem_of_getElem? (i := 884) (by decide +kernel), List.mem_of_getElem? (i := 885) (by decide +kernel)⟩
theorem lw_p26 : lw_okq (⟨"DimBooksModel", "kindHere", "()I"⟩, 25) := ⟨⟨by decide +kernel, by decide +kernel⟩, List.mem_of_getElem? (i := 764) (by decide +kernel), List.mem_of_getElem? (i := 891) (by decide +kernel), List.mem_of_getElem? (i := 892) (by decide +kernel)⟩
theorem lw_p27 : lw_okq (⟨"DimBooksModel", "keptMany", "(I)I"⟩, 25) := ⟨⟨by decide +kernel, by decide +kernel⟩, List.mem_of_getElem? (i := 764) (by decide +kernel), List.mem_of_getElem? (i := 907) (by decide +kernel), List.mem_of_getElem? (i := 908) (by decide +kernel)⟩
theorem lw_p28 : lw_okq (⟨"DimBooksModel", "isKeptLine", "(II)Z"⟩, 25) := ⟨⟨by decide +kernel, by decide +kernel⟩, List.mem_of_getElem? (i := 764) (by decide +kernel), List.mem_of_getElem? (i := 911) (by decide +kernel), List.mem_of_getElem? (i := 912) (by decide +kernel)⟩
theorem lw_p29 : lw_okq (⟨"DimBooksModel", "isLine", "(I)Z"⟩, 25) := ⟨⟨by decide +kernel, by decide +kernel⟩, List.mem_of_getElem? (i := 764) (by decide +kernel), List.mem_of_getElem? (i := 922) (by decide +kernel), List.mem_of_getElem? (i := 923) (by decide +kernel)⟩
theorem lw_p30 : lw_okq (⟨"DimBooksModel", "pagesOf", "(I)I"⟩, 25) := ⟨⟨by decide +kernel, by decide +kernel⟩, List.mem_of_getElem? (i := 764) (by decide +kernel), List.mem_of_getElem? (i := 927) (by decide +kernel), List.mem_of_getElem? (i := 928) (by decide +kernel)⟩
theorem lw_p31 : lw_okq (⟨"DimBooksModel", "knowers", "(I)I"⟩, 25) := ⟨⟨by decide +kernel, by decide +kernel⟩, List.mem_of_getElem? (i := 764) (by decide +kernel), List.mem_of_getElem? (i := 931) (by decide +kernel), List.mem_of_getElem? (i := 932) (by decide +kernel)⟩
def lw_privs_2 : List (MethodName × Nat) := [(⟨"DimBooks$State", "draw", "(I)I"⟩, 12), (⟨"DimBooks", "chooseFor", "(II)V"⟩, 12), (⟨"DimBooks", "fewestToKnow", "(II)I"⟩, 12), (⟨"DimBooks", "pagesAllow", "(II)Z"⟩, 12), (⟨"DimBooksModel", "here", "()I"⟩, 25), (⟨"DimBooksModel", "takeClause", "()V"⟩, 25), (⟨"DimBooksModel", "takeWord", "()V"⟩, 25), (⟨"DimBooksModel", "isWord", "(IIIIIIII)Z"⟩, 25), (⟨"DimBooksModel", "want", "(ZII)Z"⟩, 25), (⟨"DimBooksModel", "takeNumber", "(II)I"⟩, 25), (⟨"DimBooksModel", "kindHere", "()I"⟩, 25), (⟨"DimBooksModel", "keptMany", "(I)I"⟩, 25), (⟨"DimBooksModel", "isKeptLine", "(II)Z"⟩, 25), (⟨"DimBooksModel", "isLine", "(I)Z"⟩, 25), (⟨"DimBooksModel", "pagesOf", "(I)I"⟩, 25), (⟨"DimBooksModel", "knowers", "(I)I"⟩, 25)]
theorem lw_r2 : ∀ q ∈ lw_privs_2, lw_okq q := List.forall_mem_cons.mpr ⟨lw_p16, List.forall_mem_cons.mpr ⟨lw_p17, List.forall_mem_cons.mpr ⟨lw_p18, List.forall_mem_cons.mpr ⟨lw_p19, List.forall_mem_cons.mpr ⟨lw_p20, List.forall_mem_cons.mpr ⟨lw_p21, List.forall_mem_cons.mpr ⟨lw_p22, List.forall_mem_cons.mpr ⟨lw_p23, List.forall_mem_cons.mpr ⟨lw_p24, List.forall_mem_cons.mpr ⟨lw_p25, List.forall_mem_cons.mpr ⟨lw_p26, List.forall_mem_cons.mpr ⟨lw_p27, List.forall_mem_cons.mpr ⟨lw_p28, List.forall_mem_cons.mpr ⟨lw_p29, List.forall_mem_cons.mpr ⟨lw_p30, List.forall_mem_cons.mpr ⟨lw_p31, fun _ h => absurd h List.not_mem_nil⟩⟩⟩⟩⟩⟩⟩⟩⟩⟩⟩⟩⟩⟩⟩⟩
theorem lw_p32 : lw_okq (⟨"DimBooksModel", "vote", "(I)I"⟩, 25) := ⟨⟨by decide +kernel, by decide +kernel⟩, List.mem_of_getElem? (i := 764) (by decide +kernel), List.mem_of_getElem? (i := 935) (by decide +kernel), List.mem_of_getElem? (i := 936) (by decide +kernel)⟩
theorem lw_p33 : lw_okq (⟨"DimBooksModel", "votesFor", "(II)I"⟩, 25) := ⟨⟨by decide +kernel, by decide +kernel⟩, List.mem_of_getElem? (i := 764) (by decide +kernel), List.mem_of_getElem? (i := 942) (by decide +kernel), List.mem_of_getElem? (i := 943) (by decide +kernel)⟩
theorem lw_p34 : lw_okq (⟨"DimBooksModel", "isReader", "(I)Z"⟩, 25) := ⟨⟨by decide +kernel, by decide +kernel⟩, List.mem_of_getElem? (i := 764) (by decide +kernel), List.mem_of_getElem? (i := 950) (by decide +kernel), List.mem_of_getElem? (i := 951) (by decide +kernel)⟩
theorem lw_p35 : lw_okq (⟨"DimBooksModel", "knownBy", "(I)I"⟩, 25) := ⟨⟨by decide +kernel, by decide +kernel⟩, List.mem_of_getElem? (i := 764) (by decide +kernel), List.mem_of_getElem? (i := 954) (by decide +kernel), List.mem_of_getElem? (i := 955) (by decide +kernel)⟩
theorem lw_p36 : lw_okq (⟨"DimBooksModel", "isPage", "(I)Z"⟩, 25) := ⟨⟨by decide +kernel, by decide +kernel⟩, List.mem_of_getElem? (i := 764) (by decide +kernel), List.mem_of_getElem? (i := 962) (by decide +kernel), List.mem_of_getElem? (i := 963) (by decide +kernel)⟩
theorem lw_p37 : lw_okq (⟨"DimBooksModel", "readMany", "(I)I"⟩, 25) := ⟨⟨by decide +kernel, by decide +kernel⟩, List.mem_of_getElem? (i := 764) (by decide +kernel), List.mem_of_getElem? (i := 966) (by decide +kernel), List.mem_of_getElem? (i := 967) (by decide +kernel)⟩
theorem lw_p38 : lw_okq (⟨"DimBooksModel", "readPage", "(III)V"⟩, 25) := ⟨⟨by decide +kernel, by decide +kernel⟩, List.mem_of_getElem? (i := 764) (by decide +kernel), List.mem_of_getElem? (i := 984) (by decide +kernel), List.mem_of_getElem? (i := 985) (by decide +kernel)⟩
theorem lw_p39 : lw_okq (⟨"DimBooksModel", "know", "(IIII)V"⟩, 25) := ⟨⟨by decide +kernel, by decide +kernel⟩, List.mem_of_getElem? (i := 764) (by decide +kernel), List.mem_of_getElem? (i := 988) (by decide +kernel), List.mem_of_getElem? (i := 989) (by decide +kernel)⟩
theorem lw_p40 : lw_okq (⟨"DimBooksModel", "make", "(III)I"⟩, 25) := ⟨⟨by decide +kernel, by decide +kernel⟩, List.mem_of_getElem? (i := 764) (by decide +kernel), List.mem_of_getElem? (i := 996) (by decide +kernel), List.mem_of_getElem? (i := 997) (by decide +kernel)⟩
theorem lw_p41 : lw_okq (⟨"DimBooksModel", "draw", "(II)I"⟩, 25) := ⟨⟨by decide +kernel, by decide +kernel⟩, List.mem_of_getElem? (i := 764) (by decide +kernel), List.mem_of_getElem? (i := 1000) (by decide +kernel), List.mem_of_getElem? (i := 1001) (by decide +kernel)⟩
theorem lw_p42 : lw_okq (⟨"DimBooksModel", "darken", "(I)V"⟩, 25) := ⟨⟨by decide +kernel, by decide +kernel⟩, List.mem_of_getElem? (i := 764) (by decide +kernel), List.mem_of_getElem? (i := 1021) (by decide +kernel), List.mem_of_getElem? (i := 1022) (by decide +kernel)⟩
theorem lw_p43 : lw_okq (⟨"DimBooksModel", "runDays", "(II)V"⟩, 25) := ⟨⟨by decide +kernel, by decide +kernel⟩, List.mem_of_getElem? (i := 764) (by decide +kernel), List.mem_of_getElem? (i := 1030) (by decide +kernel), List.mem_of_getElem? (i := 1031) (by decide +kernel)⟩
theorem lw_p44 : lw_okq (⟨"DimBooksModel", "grantAll", "(II)I"⟩, 25) := ⟨⟨by decide +kernel, by decide +kernel⟩, List.mem_of_getElem? (i := 764) (by decide +kernel), List.mem_of_getElem? (i := 1051) (by decide +kernel), List.mem_of_getElem? (i := 1052) (by decide +kernel)⟩
theorem lw_p45 : lw_okq (⟨"DimBooksModel", "palest", "(II)I"⟩, 25) := ⟨⟨by decide +kernel, by decide +kernel⟩, List.mem_of_getElem? (i := 764) (by decide +kernel), List.mem_of_getElem? (i := 1058) (by decide +kernel), List.mem_of_getElem? (i := 1059) (by decide +kernel)⟩
theorem lw_p46 : lw_okq (⟨"DimBooksModel", "sumBy", "(II)I"⟩, 25) := ⟨⟨by decide +kernel, by decide +kernel⟩, List.mem_of_getElem? (i := 764) (by decide +kernel), List.mem_of_getElem? (i := 1066) (by decide +kernel), List.mem_of_getElem? (i := 1067) (by decide +kernel)⟩
theorem lw_p47 : lw_okq (⟨"DimBooksModel", "copyRow", "(II)V"⟩, 25) := ⟨⟨by decide +kernel, by decide +kernel⟩, List.mem_of_getElem? (i := 764) (by decide +kernel), List.mem_of_getElem? (i := 1070) (by decide +kernel), List.mem_of_getElem? (i := 1071) (by decide +kernel)⟩
def lw_privs_3 : List (MethodName × Nat) := [(⟨"DimBooksModel", "vote", "(I)I"⟩, 25), (⟨"DimBooksModel", "votesFor", "(II)I"⟩, 25), (⟨"DimBooksModel", "isReader", "(I)Z"⟩, 25), (⟨"DimBooksModel", "knownBy", "(I)I"⟩, 25), (⟨"DimBooksModel", "isPage", "(I)Z"⟩, 25), (⟨"DimBooksModel", "readMany", "(I)I"⟩, 25), (⟨"DimBooksModel", "readPage", "(III)V"⟩, 25), (⟨"DimBooksModel", "know", "(IIII)V"⟩, 25), (⟨"DimBooksModel", "make", "(III)I"⟩, 25), (⟨"DimBooksModel", "draw", "(II)I"⟩, 25), (⟨"DimBooksModel", "darken", "(I)V"⟩, 25), (⟨"DimBooksModel", "runDays", "(II)V"⟩, 25), (⟨"DimBooksModel", "grantAll", "(II)I"⟩, 25), (⟨"DimBooksModel", "palest", "(II)I"⟩, 25), (⟨"DimBooksModel", "sumBy", "(II)I"⟩, 25), (⟨"DimBooksModel", "copyRow", "(II)V"⟩, 25)]
theorem lw_r3 : ∀ q ∈ lw_privs_3, lw_okq q := List.forall_mem_cons.mpr ⟨lw_p32, List.forall_mem_cons.mpr ⟨lw_p33, List.forall_mem_cons.mpr ⟨lw_p34, List.forall_mem_cons.mpr ⟨lw_p35, List.forall_mem_cons.mpr ⟨lw_p36, List.forall_mem_cons.mpr ⟨lw_p37, List.forall_mem_cons.mpr ⟨lw_p38, List.forall_mem_cons.mpr ⟨lw_p39, List.forall_mem_cons.mpr ⟨lw_p40, List.forall_mem_cons.mpr ⟨lw_p41, List.forall_mem_cons.mpr ⟨lw_p42, List.forall_mem_cons.mpr ⟨lw_p43, List.forall_mem_cons.mpr ⟨lw_p44, List.forall_mem_cons.mpr ⟨lw_p45, List.forall_mem_cons.mpr ⟨lw_p46, List.forall_mem_cons.mpr ⟨lw_p47, fun _ h => absurd h List.not_mem_nil⟩⟩⟩⟩⟩⟩⟩⟩⟩⟩⟩⟩⟩⟩⟩⟩
theorem lw_p48 : lw_okq (⟨"DimBooksModel", "fewest", "(II)I"⟩, 25) := ⟨⟨by decide +kernel, by decide +kernel⟩, List.mem_of_getElem? (i := 764) (by decide +kernel), List.mem_of_getElem? (i := 1078) (by decide +kernel), List.mem_of_getElem? (i := 1079) (by decide +kernel)⟩
theorem lw_p49 : lw_okq (⟨"DimBooksModel", "isTrue", "(II)Z"⟩, 25) := ⟨⟨by decide +kernel, by decide +kernel⟩, List.mem_of_getElem? (i := 764) (by decide +kernel), List.mem_of_getElem? (i := 1082) (by decide +kernel), List.mem_of_getElem? (i := 1083) (by decide +kernel)⟩
def lw_privs_4 : List (MethodName × Nat) := [(⟨"DimBooksModel", "fewest", "(II)I"⟩, 25), (⟨"DimBooksModel", "isTrue", "(II)Z"⟩, 25)]
theorem lw_r4 : ∀ q ∈ lw_privs_4, lw_okq q := List.forall_mem_cons.mpr ⟨lw_p48, List.forall_mem_cons.mpr ⟨lw_p49, fun _ h => absurd h List.not_mem_nil⟩⟩
def lw_privs : List (MethodName × Nat) := lw_privs_1 ++ (lw_privs_2 ++ (lw_privs_3 ++ (lw_privs_4)))
def lw_tbl : List Cond := k2_sels lw_privs ++ tables_1
theorem lw_privs_ok : ∀ q ∈ lw_privs, lw_okq q := by
  show ∀ q ∈ lw_privs_1 ++ (lw_privs_2 ++ (lw_privs_3 ++ (lw_privs_4))), lw_okq q
  exact List.forall_mem_append.mpr ⟨lw_r1, List.forall_mem_append.mpr ⟨lw_r2, List.forall_mem_append.mpr ⟨lw_r3, lw_r4⟩⟩⟩
end
section
/-! ===== BEGIN words of one list among another's, by their places ===== -/
theorem goodIn_r {big : List Cond} (ws : List Cond) (ps : List Nat) (hp : ws = ps.filterMap (fun i => big[i]?)) (h : ws.all goodWord = true) : GoodIn big ws := by
  intro w hw
  have h1 := List.all_eq_true.mp h w hw
  rw [hp] at hw
  obtain ⟨i, -, hi⟩ := List.mem_filterMap.mp hw
  have hm : w ∈ big := by first | exact List.mem_of_getElem? hi | exact List.getElem?_mem hi
  exact ⟨hm, good_of_word h1⟩
theorem goodIn_app {big a b : List Cond} (ha : GoodIn big a) (hb : GoodIn big b) : GoodIn big (a ++ b) := fun w h => (List.mem_append.mp h).elim (ha w) (hb w)
theorem goodIn_ca {big a b : List Cond} {c : Cond} (ha : GoodIn big (c :: a)) (hb : GoodIn big b) : GoodIn big (c :: (a ++ b)) := fun w h => (List.mem_cons.mp h).elim (fun e => ha w (List.mem_cons.mpr (Or.inl e))) (fun h => (List.mem_append.mp h).elim (fun h => ha w (List.mem_cons.mpr (Or.inr h))) (hb w))
theorem goodIn_sub {big ws : List Cond} (hm : ∀ w ∈ ws, w ∈ big) (h : ws.all goodWord = true) : GoodIn big ws := fun w hw => ⟨hm w hw, good_of_word (List.all_eq_true.mp h w hw)⟩
/-! ===== END ===== -/

/-! ===== BEGIN printed: names, fields, word lists, decode rows ===== -/
def RX0 : String := "DimBooks$Choice"
def TX0 : u_T := fun k => match k with
  | 0 => ("DimBooks$Choice", "set", "I", false)
  | 1 => ("DimBooks$Choice", "sum", "I", false)
  | _ => ("DimBooks$Choice", "lost", "I", false)
def tyX0 : Nat → FieldType := fun k => match k with
  | 0 => .int
  | 1 => .int
  | _ => .int
abbrev wsX00 : List Cond := u_ws RX0 TX0 3
theorem nmX0 : ∀ a, a < 3 → ∀ b, b < 3 → a ≠ b → (TX0 a).2.1 ≠ (TX0 b).2.1 := by decide +kernel
theorem tyX0_ok : ∀ k, k < 3 → parseFieldDescriptor (TX0 k).2.2.1 = some (tyX0 k) := by decide +kernel
abbrev cX0_init : ByteArray := prog_2_method_1_code
def yX0_init : MethodName := ⟨RX0, "<init>", "()V"⟩
abbrev cX0_clear : ByteArray := prog_2_method_2_code
def yX0_clear : MethodName := ⟨RX0, "clear", "()V"⟩
abbrev cX0_addLine : ByteArray := prog_2_method_3_code
def yX0_addLine : MethodName := ⟨RX0, "addLine", "(IIIZ)V"⟩
def RX1 : String := "DimBooks$Library"
def TX1 : u_T := fun k => match k with
  | 0 => ("DimBooks$Library", "worths", "[I", true)
  | 1 => ("DimBooks$Library", "firstShades", "[I", true)
  | 2 => ("DimBooks$Library", "kinds", "[I", true)
  | 3 => ("DimBooks$Library", "terms", "[I", true)
  | 4 => ("DimBooks$Library", "lines", "I", false)
  | 5 => ("DimBooks$Library", "readers", "I", false)
  | 6 => ("DimBooks$Library", "error", "I", false)
  | _ => ("DimBooks$Library", "errorTold", "Z", false)
def tyX1 : Nat → FieldType := fun k => match k with
  | 0 => .array .int
  | 1 => .array .int
  | 2 => .array .int
  | 3 => .array .int
  | 4 => .int
  | 5 => .int
  | 6 => .int
  | _ => .boolean
abbrev wsX10 : List Cond := u_ws RX1 TX1 8
theorem nmX1 : ∀ a, a < 8 → ∀ b, b < 8 → a ≠ b → (TX1 a).2.1 ≠ (TX1 b).2.1 := by decide +kernel
theorem tyX1_ok : ∀ k, k < 8 → parseFieldDescriptor (TX1 k).2.2.1 = some (tyX1 k) := by decide +kernel
abbrev cX1_init : ByteArray := prog_3_method_1_code
def yX1_init : MethodName := ⟨RX1, "<init>", "()V"⟩
abbrev cX1_clear : ByteArray := prog_3_method_2_code
def yX1_clear : MethodName := ⟨RX1, "clear", "()V"⟩
abbrev cX1_copyFrom : ByteArray := prog_3_method_3_code
def yX1_copyFrom : MethodName := ⟨RX1, "copyFrom", "(LDimBooks$Library;)V"⟩
abbrev cX1_addLine : ByteArray := prog_3_method_4_code
def yX1_addLine : MethodName := ⟨RX1, "addLine", "(II)V"⟩
abbrev cX1_addReader : ByteArray := prog_3_method_5_code
def yX1_addReader : MethodName := ⟨RX1, "addReader", "(II)V"⟩
abbrev cX1_tellError : ByteArray := prog_3_method_6_code
def yX1_tellError : MethodName := ⟨RX1, "tellError", "(I)V"⟩
abbrev cX1_hasLine : ByteArray := prog_3_method_7_code
def yX1_hasLine : MethodName := ⟨RX1, "hasLine", "(I)Z"⟩
abbrev cX1_hasReader : ByteArray := prog_3_method_8_code
def yX1_hasReader : MethodName := ⟨RX1, "hasReader", "(I)Z"⟩
abbrev cX1_readersOfKind : ByteArray := prog_3_method_9_code
def yX1_readersOfKind : MethodName := ⟨RX1, "readersOfKind", "(I)I"⟩
def RX2 : String := "DimBooks$Log"
def TX2 : u_T := fun k => match k with
  | 0 => ("DimBooks$Log", "days", "[I", true)
  | 1 => ("DimBooks$Log", "pages", "[I", true)
  | 2 => ("DimBooks$Log", "readers", "[I", true)
  | _ => ("DimBooks$Log", "count", "I", false)
def tyX2 : Nat → FieldType := fun k => match k with
  | 0 => .array .int
  | 1 => .array .int
  | 2 => .array .int
  | _ => .int
abbrev wsX20 : List Cond := u_ws RX2 TX2 4
theorem nmX2 : ∀ a, a < 4 → ∀ b, b < 4 → a ≠ b → (TX2 a).2.1 ≠ (TX2 b).2.1 := by decide +kernel
theorem tyX2_ok : ∀ k, k < 4 → parseFieldDescriptor (TX2 k).2.2.1 = some (tyX2 k) := by decide +kernel
abbrev cX2_init : ByteArray := prog_4_method_1_code
def yX2_init : MethodName := ⟨RX2, "<init>", "()V"⟩
abbrev cX2_add : ByteArray := prog_4_method_2_code
def yX2_add : MethodName := ⟨RX2, "add", "(III)V"⟩
abbrev cX2_timesRead : ByteArray := prog_4_method_3_code
def yX2_timesRead : MethodName := ⟨RX2, "timesRead", "(I)I"⟩
abbrev cX2_copyFrom : ByteArray := prog_4_method_4_code
def yX2_copyFrom : MethodName := ⟨RX2, "copyFrom", "(LDimBooks$Log;)V"⟩
def RX3 : String := "DimBooks$Requests"
def TX3 : u_T := fun k => match k with
  | 0 => ("DimBooks$Requests", "readers", "[I", true)
  | 1 => ("DimBooks$Requests", "lines", "[I", true)
  | 2 => ("DimBooks$Requests", "worths", "[I", true)
  | _ => ("DimBooks$Requests", "count", "I", false)
def tyX3 : Nat → FieldType := fun k => match k with
  | 0 => .array .int
  | 1 => .array .int
  | 2 => .array .int
  | _ => .int
abbrev wsX30 : List Cond := u_ws RX3 TX3 4
theorem nmX3 : ∀ a, a < 4 → ∀ b, b < 4 → a ≠ b → (TX3 a).2.1 ≠ (TX3 b).2.1 := by decide +kernel
theorem tyX3_ok : ∀ k, k < 4 → parseFieldDescriptor (TX3 k).2.2.1 = some (tyX3 k) := by decide +kernel
abbrev cX3_init : ByteArray := prog_5_method_1_code
def yX3_init : MethodName := ⟨RX3, "<init>", "()V"⟩
abbrev cX3_add : ByteArray := prog_5_method_2_code
def yX3_add : MethodName := ⟨RX3, "add", "(III)I"⟩
abbrev cX3_forLine : ByteArray := prog_5_method_3_code
def yX3_forLine : MethodName := ⟨RX3, "forLine", "(I)I"⟩
abbrev cX3_fulfil : ByteArray := prog_5_method_4_code
def yX3_fulfil : MethodName := ⟨RX3, "fulfil", "(ILDimBooks$State;)I"⟩
def RX4 : String := "DimBooks$Script"
def TX4 : u_T := fun k => match k with
  | 0 => ("DimBooks$Script", "bytes", "[I", true)
  | 1 => ("DimBooks$Script", "length", "I", false)
  | 2 => ("DimBooks$Script", "fault", "I", false)
  | 3 => ("DimBooks$Script", "faultAt", "I", false)
  | _ => ("DimBooks$Script", "at", "I", false)
def tyX4 : Nat → FieldType := fun k => match k with
  | 0 => .array .int
  | 1 => .int
  | 2 => .int
  | 3 => .int
  | _ => .int
abbrev wsX40 : List Cond := u_ws RX4 TX4 5
theorem nmX4 : ∀ a, a < 5 → ∀ b, b < 5 → a ≠ b → (TX4 a).2.1 ≠ (TX4 b).2.1 := by decide +kernel
theorem tyX4_ok : ∀ k, k < 5 → parseFieldDescriptor (TX4 k).2.2.1 = some (tyX4 k) := by decide +kernel
abbrev cX4_init : ByteArray := prog_6_method_1_code
def yX4_init : MethodName := ⟨RX4, "<init>", "()V"⟩
abbrev cX4_append : ByteArray := prog_6_method_2_code
def yX4_append : MethodName := ⟨RX4, "append", "(I)V"⟩
abbrev cX4_parseInto : ByteArray := prog_6_method_3_code
def yX4_parseInto : MethodName := ⟨RX4, "parseInto", "(LDimBooks$Library;)V"⟩
abbrev cX4_parseClause : ByteArray := prog_6_method_4_code
def yX4_parseClause : MethodName := ⟨RX4, "parseClause", "(LDimBooks$Library;)V"⟩
abbrev cX4_parseLine : ByteArray := prog_6_method_5_code
def yX4_parseLine : MethodName := ⟨RX4, "parseLine", "(LDimBooks$Library;I)V"⟩
abbrev cX4_parseReader : ByteArray := prog_6_method_6_code
def yX4_parseReader : MethodName := ⟨RX4, "parseReader", "(LDimBooks$Library;I)V"⟩
abbrev cX4_parseError : ByteArray := prog_6_method_7_code
def yX4_parseError : MethodName := ⟨RX4, "parseError", "(LDimBooks$Library;I)V"⟩
abbrev cX4_takeKind : ByteArray := prog_6_method_8_code
def yX4_takeKind : MethodName := ⟨RX4, "takeKind", "()I"⟩
abbrev cX4_takeNumber : ByteArray := prog_6_method_9_code
def yX4_takeNumber : MethodName := ⟨RX4, "takeNumber", "(II)I"⟩
abbrev cX4_takeEnd : ByteArray := prog_6_method_10_code
def yX4_takeEnd : MethodName := ⟨RX4, "takeEnd", "()V"⟩
abbrev cX4_skipBlanks : ByteArray := prog_6_method_11_code
def yX4_skipBlanks : MethodName := ⟨RX4, "skipBlanks", "()V"⟩
abbrev cX4_wordEnd : ByteArray := prog_6_method_12_code
def yX4_wordEnd : MethodName := ⟨RX4, "wordEnd", "()I"⟩
abbrev cX4_spells : ByteArray := prog_6_method_13_code
def yX4_spells : MethodName := ⟨RX4, "spells", "(IILjava/lang/String;)Z"⟩
abbrev cX4_isFigure : ByteArray := prog_6_method_14_code
def yX4_isFigure : MethodName := ⟨RX4, "isFigure", "(I)Z"⟩
abbrev cX4_fail : ByteArray := prog_6_method_15_code
def yX4_fail : MethodName := ⟨RX4, "fail", "(II)V"⟩
def RX5 : String := "DimBooks$State"
def TX5 : u_T := fun k => match k with
  | 0 => ("DimBooks$State", "lib", "LDimBooks$Library;", true)
  | 1 => ("DimBooks$State", "log", "LDimBooks$Log;", true)
  | 2 => ("DimBooks$State", "lineOf", "[I", true)
  | 3 => ("DimBooks$State", "variantOf", "[I", true)
  | 4 => ("DimBooks$State", "shadeOf", "[I", true)
  | 5 => ("DimBooks$State", "writerOf", "[I", true)
  | 6 => ("DimBooks$State", "variantHeld", "[I", true)
  | 7 => ("DimBooks$State", "daySince", "[I", true)
  | 8 => ("DimBooks$State", "entryShades", "[I", true)
  | 9 => ("DimBooks$State", "pages", "I", false)
  | 10 => ("DimBooks$State", "day", "I", false)
  | _ => ("DimBooks$State", "seed", "I", false)
def tyX5 : Nat → FieldType := fun k => match k with
  | 0 => .object "DimBooks$Library"
  | 1 => .object "DimBooks$Log"
  | 2 => .array .int
  | 3 => .array .int
  | 4 => .array .int
  | 5 => .array .int
  | 6 => .array .int
  | 7 => .array .int
  | 8 => .array .int
  | 9 => .int
  | 10 => .int
  | _ => .int
abbrev wsX50 : List Cond := u_ws RX5 TX5 12
theorem nmX5 : ∀ a, a < 12 → ∀ b, b < 12 → a ≠ b → (TX5 a).2.1 ≠ (TX5 b).2.1 := by decide +kernel
theorem tyX5_ok : ∀ k, k < 12 → parseFieldDescriptor (TX5 k).2.2.1 = some (tyX5 k) := by decide +kernel
abbrev cX5_init : ByteArray := prog_7_method_1_code
def yX5_init : MethodName := ⟨RX5, "<init>", "(LDimBooks$Library;)V"⟩
abbrev cX5_open : ByteArray := prog_7_method_2_code
def yX5_open : MethodName := ⟨RX5, "open", "()V"⟩
abbrev cX5_copyFrom : ByteArray := prog_7_method_3_code
def yX5_copyFrom : MethodName := ⟨RX5, "copyFrom", "(LDimBooks$State;)V"⟩
abbrev cX5_copyBooks : ByteArray := prog_7_method_4_code
def yX5_copyBooks : MethodName := ⟨RX5, "copyBooks", "(LDimBooks$State;)V"⟩
abbrev cX5_hasPage : ByteArray := prog_7_method_5_code
def yX5_hasPage : MethodName := ⟨RX5, "hasPage", "(I)Z"⟩
abbrev cX5_isGone : ByteArray := prog_7_method_6_code
def yX5_isGone : MethodName := ⟨RX5, "isGone", "(I)Z"⟩
abbrev cX5_isFull : ByteArray := prog_7_method_7_code
def yX5_isFull : MethodName := ⟨RX5, "isFull", "()Z"⟩
abbrev cX5_heart : ByteArray := prog_7_method_8_code
def yX5_heart : MethodName := ⟨RX5, "heart", "(II)I"⟩
abbrev cX5_variantAt : ByteArray := prog_7_method_9_code
def yX5_variantAt : MethodName := ⟨RX5, "variantAt", "(III)I"⟩
abbrev cX5_variantKnown : ByteArray := prog_7_method_10_code
def yX5_variantKnown : MethodName := ⟨RX5, "variantKnown", "(II)I"⟩
abbrev cX5_knowsAny : ByteArray := prog_7_method_11_code
def yX5_knowsAny : MethodName := ⟨RX5, "knowsAny", "(II)Z"⟩
abbrev cX5_dayLearnt : ByteArray := prog_7_method_12_code
def yX5_dayLearnt : MethodName := ⟨RX5, "dayLearnt", "(II)I"⟩
abbrev cX5_learn : ByteArray := prog_7_method_13_code
def yX5_learn : MethodName := ⟨RX5, "learn", "(III)V"⟩
abbrev cX5_readPage : ByteArray := prog_7_method_14_code
def yX5_readPage : MethodName := ⟨RX5, "readPage", "(II)V"⟩
abbrev cX5_addPage : ByteArray := prog_7_method_15_code
def yX5_addPage : MethodName := ⟨RX5, "addPage", "(III)I"⟩
abbrev cX5_draw : ByteArray := prog_7_method_16_code
def yX5_draw : MethodName := ⟨RX5, "draw", "(I)I"⟩
abbrev cX5_daysAhead : ByteArray := prog_7_method_17_code
def yX5_daysAhead : MethodName := ⟨RX5, "daysAhead", "(I)I"⟩
abbrev cX5_passDusks : ByteArray := prog_7_method_18_code
def yX5_passDusks : MethodName := ⟨RX5, "passDusks", "(I)V"⟩
abbrev cX5_liveByDraws : ByteArray := prog_7_method_19_code
def yX5_liveByDraws : MethodName := ⟨RX5, "liveByDraws", "(I)V"⟩
abbrev cX5_isKept : ByteArray := prog_7_method_20_code
def yX5_isKept : MethodName := ⟨RX5, "isKept", "(II)Z"⟩
abbrev cX5_countKept : ByteArray := prog_7_method_21_code
def yX5_countKept : MethodName := ⟨RX5, "countKept", "(I)I"⟩
abbrev cX5_countGone : ByteArray := prog_7_method_22_code
def yX5_countGone : MethodName := ⟨RX5, "countGone", "()I"⟩
abbrev cX5_isLeft : ByteArray := prog_7_method_23_code
def yX5_isLeft : MethodName := ⟨RX5, "isLeft", "(II)Z"⟩
abbrev cX5_pagesLeft : ByteArray := prog_7_method_24_code
def yX5_pagesLeft : MethodName := ⟨RX5, "pagesLeft", "(I)I"⟩
abbrev cX5_pagesLeftWith : ByteArray := prog_7_method_25_code
def yX5_pagesLeftWith : MethodName := ⟨RX5, "pagesLeftWith", "(II)I"⟩
abbrev cX5_truePages : ByteArray := prog_7_method_26_code
def yX5_truePages : MethodName := ⟨RX5, "truePages", "(I)I"⟩
abbrev cX5_trueReadingsLeft : ByteArray := prog_7_method_27_code
def yX5_trueReadingsLeft : MethodName := ⟨RX5, "trueReadingsLeft", "(I)I"⟩
abbrev cX5_firstPage : ByteArray := prog_7_method_28_code
def yX5_firstPage : MethodName := ⟨RX5, "firstPage", "(I)I"⟩
abbrev cX5_darkestPage : ByteArray := prog_7_method_29_code
def yX5_darkestPage : MethodName := ⟨RX5, "darkestPage", "(I)I"⟩
abbrev cX5_knowers : ByteArray := prog_7_method_30_code
def yX5_knowers : MethodName := ⟨RX5, "knowers", "(I)I"⟩
abbrev cX5_knowersOf : ByteArray := prog_7_method_31_code
def yX5_knowersOf : MethodName := ⟨RX5, "knowersOf", "(II)I"⟩
abbrev cX5_trueKnowers : ByteArray := prog_7_method_32_code
def yX5_trueKnowers : MethodName := ⟨RX5, "trueKnowers", "(I)I"⟩
abbrev cX5_linesKnown : ByteArray := prog_7_method_33_code
def yX5_linesKnown : MethodName := ⟨RX5, "linesKnown", "(I)I"⟩
abbrev cX5_voteOn : ByteArray := prog_7_method_34_code
def yX5_voteOn : MethodName := ⟨RX5, "voteOn", "(I)I"⟩
abbrev cX5_canBeCopied : ByteArray := prog_7_method_35_code
def yX5_canBeCopied : MethodName := ⟨RX5, "canBeCopied", "(III)Z"⟩
abbrev cX5_firstWriter : ByteArray := prog_7_method_36_code
def yX5_firstWriter : MethodName := ⟨RX5, "firstWriter", "(II)I"⟩
def RX6 : String := "DimBooks"
def TX6 : u_T := fun k => match k with
  | 0 => ("DimBooks", "script", "LDimBooks$Script;", true)
  | 1 => ("DimBooks", "draft", "LDimBooks$Library;", true)
  | 2 => ("DimBooks", "lib", "LDimBooks$Library;", true)
  | 3 => ("DimBooks", "now", "LDimBooks$State;", true)
  | 4 => ("DimBooks", "trial", "LDimBooks$State;", true)
  | 5 => ("DimBooks", "images", "[LDimBooks$State;", true)
  | 6 => ("DimBooks", "imagesKept", "I", false)
  | 7 => ("DimBooks", "requests", "LDimBooks$Requests;", true)
  | 8 => ("DimBooks", "choice", "LDimBooks$Choice;", true)
  | 9 => ("DimBooks", "diary", "[I", true)
  | 10 => ("DimBooks", "entries", "I", false)
  | _ => ("DimBooks", "odds", "[I", true)
def tyX6 : Nat → FieldType := fun k => match k with
  | 0 => .object "DimBooks$Script"
  | 1 => .object "DimBooks$Library"
  | 2 => .object "DimBooks$Library"
  | 3 => .object "DimBooks$State"
  | 4 => .object "DimBooks$State"
  | 5 => .array (.object "DimBooks$State")
  | 6 => .int
  | 7 => .object "DimBooks$Requests"
  | 8 => .object "DimBooks$Choice"
  | 9 => .array .int
  | 10 => .int
  | _ => .array .int
abbrev wsX60 : List Cond := u_ws RX6 TX6 12
theorem nmX6 : ∀ a, a < 12 → ∀ b, b < 12 → a ≠ b → (TX6 a).2.1 ≠ (TX6 b).2.1 := by decide +kernel
theorem tyX6_ok : ∀ k, k < 12 → parseFieldDescriptor (TX6 k).2.2.1 = some (tyX6 k) := by decide +kernel
abbrev cX6_init : ByteArray := prog_1_method_1_code
def yX6_init : MethodName := ⟨RX6, "<init>", "()V"⟩
abbrev cX6_feed : ByteArray := prog_1_method_2_code
def yX6_feed : MethodName := ⟨RX6, "feed", "(IJ)I"⟩
abbrev cX6_library : ByteArray := prog_1_method_3_code
def yX6_library : MethodName := ⟨RX6, "library", "()I"⟩
abbrev cX6_fault : ByteArray := prog_1_method_4_code
def yX6_fault : MethodName := ⟨RX6, "fault", "()I"⟩
abbrev cX6_told : ByteArray := prog_1_method_5_code
def yX6_told : MethodName := ⟨RX6, "told", "(I)I"⟩
abbrev cX6_line : ByteArray := prog_1_method_6_code
def yX6_line : MethodName := ⟨RX6, "line", "(II)I"⟩
abbrev cX6_reader : ByteArray := prog_1_method_7_code
def yX6_reader : MethodName := ⟨RX6, "reader", "(II)I"⟩
abbrev cX6_page : ByteArray := prog_1_method_8_code
def yX6_page : MethodName := ⟨RX6, "page", "(II)I"⟩
abbrev cX6_knows : ByteArray := prog_1_method_9_code
def yX6_knows : MethodName := ⟨RX6, "knows", "(III)I"⟩
abbrev cX6_reading : ByteArray := prog_1_method_10_code
def yX6_reading : MethodName := ⟨RX6, "reading", "(II)I"⟩
abbrev cX6_read : ByteArray := prog_1_method_11_code
def yX6_read : MethodName := ⟨RX6, "read", "(II)I"⟩
abbrev cX6_copy : ByteArray := prog_1_method_12_code
def yX6_copy : MethodName := ⟨RX6, "copy", "(II)I"⟩
abbrev cX6_write : ByteArray := prog_1_method_13_code
def yX6_write : MethodName := ⟨RX6, "write", "(II)I"⟩
abbrev cX6_teach : ByteArray := prog_1_method_14_code
def yX6_teach : MethodName := ⟨RX6, "teach", "(III)I"⟩
abbrev cX6_dusk : ByteArray := prog_1_method_15_code
def yX6_dusk : MethodName := ⟨RX6, "dusk", "(I)I"⟩
abbrev cX6_run : ByteArray := prog_1_method_16_code
def yX6_run : MethodName := ⟨RX6, "run", "(I)I"⟩
abbrev cX6_where : ByteArray := prog_1_method_17_code
def yX6_where : MethodName := ⟨RX6, "where", "(I)I"⟩
abbrev cX6_request : ByteArray := prog_1_method_18_code
def yX6_request : MethodName := ⟨RX6, "request", "(III)I"⟩
abbrev cX6_forget : ByteArray := prog_1_method_19_code
def yX6_forget : MethodName := ⟨RX6, "forget", "()I"⟩
abbrev cX6_grant : ByteArray := prog_1_method_20_code
def yX6_grant : MethodName := ⟨RX6, "grant", "(I)I"⟩
abbrev cX6_best : ByteArray := prog_1_method_21_code
def yX6_best : MethodName := ⟨RX6, "best", "(II)I"⟩
abbrev cX6_chooseFor : ByteArray := prog_1_method_22_code
def yX6_chooseFor : MethodName := ⟨RX6, "chooseFor", "(II)V"⟩
abbrev cX6_toKnow : ByteArray := prog_1_method_23_code
def yX6_toKnow : MethodName := ⟨RX6, "toKnow", "(II)I"⟩
abbrev cX6_fewestToKnow : ByteArray := prog_1_method_24_code
def yX6_fewestToKnow : MethodName := ⟨RX6, "fewestToKnow", "(II)I"⟩
abbrev cX6_pagesAllow : ByteArray := prog_1_method_25_code
def yX6_pagesAllow : MethodName := ⟨RX6, "pagesAllow", "(II)Z"⟩
abbrev cX6_life : ByteArray := prog_1_method_26_code
def yX6_life : MethodName := ⟨RX6, "life", "(III)I"⟩
abbrev cX6_right : ByteArray := prog_1_method_27_code
def yX6_right : MethodName := ⟨RX6, "right", "(I)I"⟩
abbrev cX6_claim : ByteArray := prog_1_method_28_code
def yX6_claim : MethodName := ⟨RX6, "claim", "(III)I"⟩
abbrev cX6_whence : ByteArray := prog_1_method_29_code
def yX6_whence : MethodName := ⟨RX6, "whence", "(II)I"⟩
abbrev cX6_span : ByteArray := prog_1_method_30_code
def yX6_span : MethodName := ⟨RX6, "span", "(III)I"⟩
abbrev cX6_note : ByteArray := prog_1_method_31_code
def yX6_note : MethodName := ⟨RX6, "note", "(I)I"⟩
abbrev cX6_tear : ByteArray := prog_1_method_32_code
def yX6_tear : MethodName := ⟨RX6, "tear", "()I"⟩
abbrev cX6_judge : ByteArray := prog_1_method_33_code
def yX6_judge : MethodName := ⟨RX6, "judge", "()I"⟩
abbrev cX6_seed : ByteArray := prog_1_method_34_code
def yX6_seed : MethodName := ⟨RX6, "seed", "(I)I"⟩
abbrev cX6_keep : ByteArray := prog_1_method_35_code
def yX6_keep : MethodName := ⟨RX6, "keep", "(I)I"⟩
abbrev cX6_goBack : ByteArray := prog_1_method_36_code
def yX6_goBack : MethodName := ⟨RX6, "goBack", "(I)I"⟩
abbrev cX6_has : ByteArray := prog_1_method_37_code
def yX6_has : MethodName := ⟨RX6, "has", "(II)Z"⟩
abbrev cX6_isSetOf : ByteArray := prog_1_method_38_code
def yX6_isSetOf : MethodName := ⟨RX6, "isSetOf", "(II)Z"⟩
def RX7 : String := "DimBooksModel"
def TX7 : u_T := fun k => match k with
  | 0 => ("DimBooksModel", "w", "[I", true)
  | 1 => ("DimBooksModel", "isKept", "[Z", true)
  | 2 => ("DimBooksModel", "worths", "[I", true)
  | 3 => ("DimBooksModel", "shades", "[I", true)
  | 4 => ("DimBooksModel", "kinds", "[I", true)
  | 5 => ("DimBooksModel", "fades", "[I", true)
  | 6 => ("DimBooksModel", "many", "[I", true)
  | 7 => ("DimBooksModel", "error", "I", false)
  | 8 => ("DimBooksModel", "newError", "I", false)
  | 9 => ("DimBooksModel", "isTold", "Z", false)
  | 10 => ("DimBooksModel", "text", "[I", true)
  | 11 => ("DimBooksModel", "textSize", "I", false)
  | 12 => ("DimBooksModel", "at", "I", false)
  | 13 => ("DimBooksModel", "first", "I", false)
  | 14 => ("DimBooksModel", "length", "I", false)
  | 15 => ("DimBooksModel", "faultOf", "I", false)
  | 16 => ("DimBooksModel", "fault", "I", false)
  | 17 => ("DimBooksModel", "requests", "I", false)
  | 18 => ("DimBooksModel", "asker", "[I", true)
  | 19 => ("DimBooksModel", "asked", "[I", true)
  | 20 => ("DimBooksModel", "offered", "[I", true)
  | 21 => ("DimBooksModel", "lostBy", "I", false)
  | 22 => ("DimBooksModel", "odds", "[I", true)
  | 23 => ("DimBooksModel", "notes", "[I", true)
  | _ => ("DimBooksModel", "noted", "I", false)
def tyX7 : Nat → FieldType := fun k => match k with
  | 0 => .array .int
  | 1 => .array .boolean
  | 2 => .array .int
  | 3 => .array .int
  | 4 => .array .int
  | 5 => .array .int
  | 6 => .array .int
  | 7 => .int
  | 8 => .int
  | 9 => .boolean
  | 10 => .array .int
  | 11 => .int
  | 12 => .int
  | 13 => .int
  | 14 => .int
  | 15 => .int
  | 16 => .int
  | 17 => .int
  | 18 => .array .int
  | 19 => .array .int
  | 20 => .array .int
  | 21 => .int
  | 22 => .array .int
  | 23 => .array .int
  | _ => .int
abbrev wsX70 : List Cond := u_ws RX7 TX7 25
theorem nmX7 : ∀ a, a < 25 → ∀ b, b < 25 → a ≠ b → (TX7 a).2.1 ≠ (TX7 b).2.1 := by decide +kernel
theorem tyX7_ok : ∀ k, k < 25 → parseFieldDescriptor (TX7 k).2.2.1 = some (tyX7 k) := by decide +kernel
abbrev cX7_init : ByteArray := prog_9_method_1_code
def yX7_init : MethodName := ⟨RX7, "<init>", "()V"⟩
abbrev cX7_in : ByteArray := prog_9_method_3_code
def yX7_in : MethodName := ⟨RX7, "in", "(JJJ)Z"⟩
abbrev cX7_one : ByteArray := prog_9_method_4_code
def yX7_one : MethodName := ⟨RX7, "one", "(Z)I"⟩
abbrev cX7_has : ByteArray := prog_9_method_5_code
def yX7_has : MethodName := ⟨RX7, "has", "(II)Z"⟩
abbrev cX7_ones : ByteArray := prog_9_method_6_code
def yX7_ones : MethodName := ⟨RX7, "ones", "(I)I"⟩
abbrev cX7_feed : ByteArray := prog_9_method_7_code
def yX7_feed : MethodName := ⟨RX7, "feed", "(IJ)I"⟩
abbrev cX7_here : ByteArray := prog_9_method_8_code
def yX7_here : MethodName := ⟨RX7, "here", "()I"⟩
abbrev cX7_want : ByteArray := prog_9_method_9_code
def yX7_want : MethodName := ⟨RX7, "want", "(ZII)Z"⟩
abbrev cX7_takeWord : ByteArray := prog_9_method_10_code
def yX7_takeWord : MethodName := ⟨RX7, "takeWord", "()V"⟩
abbrev cX7_isWord : ByteArray := prog_9_method_11_code
def yX7_isWord : MethodName := ⟨RX7, "isWord", "(IIIIIIII)Z"⟩
abbrev cX7_takeNumber : ByteArray := prog_9_method_12_code
def yX7_takeNumber : MethodName := ⟨RX7, "takeNumber", "(II)I"⟩
abbrev cX7_kindHere : ByteArray := prog_9_method_13_code
def yX7_kindHere : MethodName := ⟨RX7, "kindHere", "()I"⟩
abbrev cX7_takeClause : ByteArray := prog_9_method_14_code
def yX7_takeClause : MethodName := ⟨RX7, "takeClause", "()V"⟩
abbrev cX7_library : ByteArray := prog_9_method_15_code
def yX7_library : MethodName := ⟨RX7, "library", "()I"⟩
abbrev cX7_fault : ByteArray := prog_9_method_16_code
def yX7_fault : MethodName := ⟨RX7, "fault", "()I"⟩
abbrev cX7_isLine : ByteArray := prog_9_method_17_code
def yX7_isLine : MethodName := ⟨RX7, "isLine", "(I)Z"⟩
abbrev cX7_isReader : ByteArray := prog_9_method_18_code
def yX7_isReader : MethodName := ⟨RX7, "isReader", "(I)Z"⟩
abbrev cX7_isPage : ByteArray := prog_9_method_19_code
def yX7_isPage : MethodName := ⟨RX7, "isPage", "(I)Z"⟩
abbrev cX7_copyRow : ByteArray := prog_9_method_20_code
def yX7_copyRow : MethodName := ⟨RX7, "copyRow", "(II)V"⟩
abbrev cX7_isKeptLine : ByteArray := prog_9_method_21_code
def yX7_isKeptLine : MethodName := ⟨RX7, "isKeptLine", "(II)Z"⟩
abbrev cX7_keptMany : ByteArray := prog_9_method_22_code
def yX7_keptMany : MethodName := ⟨RX7, "keptMany", "(I)I"⟩
abbrev cX7_told : ByteArray := prog_9_method_23_code
def yX7_told : MethodName := ⟨RX7, "told", "(I)I"⟩
abbrev cX7_pagesOf : ByteArray := prog_9_method_24_code
def yX7_pagesOf : MethodName := ⟨RX7, "pagesOf", "(I)I"⟩
abbrev cX7_knowers : ByteArray := prog_9_method_25_code
def yX7_knowers : MethodName := ⟨RX7, "knowers", "(I)I"⟩
abbrev cX7_votesFor : ByteArray := prog_9_method_26_code
def yX7_votesFor : MethodName := ⟨RX7, "votesFor", "(II)I"⟩
abbrev cX7_vote : ByteArray := prog_9_method_27_code
def yX7_vote : MethodName := ⟨RX7, "vote", "(I)I"⟩
abbrev cX7_line : ByteArray := prog_9_method_28_code
def yX7_line : MethodName := ⟨RX7, "line", "(II)I"⟩
abbrev cX7_knownBy : ByteArray := prog_9_method_29_code
def yX7_knownBy : MethodName := ⟨RX7, "knownBy", "(I)I"⟩
abbrev cX7_reader : ByteArray := prog_9_method_30_code
def yX7_reader : MethodName := ⟨RX7, "reader", "(II)I"⟩
abbrev cX7_readMany : ByteArray := prog_9_method_31_code
def yX7_readMany : MethodName := ⟨RX7, "readMany", "(I)I"⟩
abbrev cX7_page : ByteArray := prog_9_method_32_code
def yX7_page : MethodName := ⟨RX7, "page", "(II)I"⟩
abbrev cX7_knows : ByteArray := prog_9_method_33_code
def yX7_knows : MethodName := ⟨RX7, "knows", "(III)I"⟩
abbrev cX7_reading : ByteArray := prog_9_method_34_code
def yX7_reading : MethodName := ⟨RX7, "reading", "(II)I"⟩
abbrev cX7_know : ByteArray := prog_9_method_35_code
def yX7_know : MethodName := ⟨RX7, "know", "(IIII)V"⟩
abbrev cX7_readPage : ByteArray := prog_9_method_36_code
def yX7_readPage : MethodName := ⟨RX7, "readPage", "(III)V"⟩
abbrev cX7_read : ByteArray := prog_9_method_37_code
def yX7_read : MethodName := ⟨RX7, "read", "(II)I"⟩
abbrev cX7_draw : ByteArray := prog_9_method_38_code
def yX7_draw : MethodName := ⟨RX7, "draw", "(II)I"⟩
abbrev cX7_make : ByteArray := prog_9_method_39_code
def yX7_make : MethodName := ⟨RX7, "make", "(III)I"⟩
abbrev cX7_copy : ByteArray := prog_9_method_40_code
def yX7_copy : MethodName := ⟨RX7, "copy", "(II)I"⟩
abbrev cX7_write : ByteArray := prog_9_method_41_code
def yX7_write : MethodName := ⟨RX7, "write", "(II)I"⟩
abbrev cX7_teach : ByteArray := prog_9_method_42_code
def yX7_teach : MethodName := ⟨RX7, "teach", "(III)I"⟩
abbrev cX7_darken : ByteArray := prog_9_method_43_code
def yX7_darken : MethodName := ⟨RX7, "darken", "(I)V"⟩
abbrev cX7_dusk : ByteArray := prog_9_method_44_code
def yX7_dusk : MethodName := ⟨RX7, "dusk", "(I)I"⟩
abbrev cX7_runDays : ByteArray := prog_9_method_45_code
def yX7_runDays : MethodName := ⟨RX7, "runDays", "(II)V"⟩
abbrev cX7_run : ByteArray := prog_9_method_46_code
def yX7_run : MethodName := ⟨RX7, "run", "(I)I"⟩
abbrev cX7_where : ByteArray := prog_9_method_47_code
def yX7_where : MethodName := ⟨RX7, "where", "(I)I"⟩
abbrev cX7_request : ByteArray := prog_9_method_48_code
def yX7_request : MethodName := ⟨RX7, "request", "(III)I"⟩
abbrev cX7_forget : ByteArray := prog_9_method_49_code
def yX7_forget : MethodName := ⟨RX7, "forget", "()I"⟩
abbrev cX7_palest : ByteArray := prog_9_method_50_code
def yX7_palest : MethodName := ⟨RX7, "palest", "(II)I"⟩
abbrev cX7_grantAll : ByteArray := prog_9_method_51_code
def yX7_grantAll : MethodName := ⟨RX7, "grantAll", "(II)I"⟩
abbrev cX7_grant : ByteArray := prog_9_method_52_code
def yX7_grant : MethodName := ⟨RX7, "grant", "(I)I"⟩
abbrev cX7_sumBy : ByteArray := prog_9_method_53_code
def yX7_sumBy : MethodName := ⟨RX7, "sumBy", "(II)I"⟩
abbrev cX7_best : ByteArray := prog_9_method_54_code
def yX7_best : MethodName := ⟨RX7, "best", "(II)I"⟩
abbrev cX7_isTrue : ByteArray := prog_9_method_55_code
def yX7_isTrue : MethodName := ⟨RX7, "isTrue", "(II)Z"⟩
abbrev cX7_lesser : ByteArray := prog_9_method_56_code
def yX7_lesser : MethodName := ⟨RX7, "lesser", "(IIZ)I"⟩
abbrev cX7_fewest : ByteArray := prog_9_method_57_code
def yX7_fewest : MethodName := ⟨RX7, "fewest", "(II)I"⟩
abbrev cX7_toKnow : ByteArray := prog_9_method_58_code
def yX7_toKnow : MethodName := ⟨RX7, "toKnow", "(II)I"⟩
abbrev cX7_life : ByteArray := prog_9_method_59_code
def yX7_life : MethodName := ⟨RX7, "life", "(III)I"⟩
abbrev cX7_right : ByteArray := prog_9_method_60_code
def yX7_right : MethodName := ⟨RX7, "right", "(I)I"⟩
abbrev cX7_claim : ByteArray := prog_9_method_61_code
def yX7_claim : MethodName := ⟨RX7, "claim", "(III)I"⟩
abbrev cX7_whence : ByteArray := prog_9_method_62_code
def yX7_whence : MethodName := ⟨RX7, "whence", "(II)I"⟩
abbrev cX7_span : ByteArray := prog_9_method_63_code
def yX7_span : MethodName := ⟨RX7, "span", "(III)I"⟩
abbrev cX7_note : ByteArray := prog_9_method_64_code
def yX7_note : MethodName := ⟨RX7, "note", "(I)I"⟩
abbrev cX7_tear : ByteArray := prog_9_method_65_code
def yX7_tear : MethodName := ⟨RX7, "tear", "()I"⟩
abbrev cX7_judge : ByteArray := prog_9_method_66_code
def yX7_judge : MethodName := ⟨RX7, "judge", "()I"⟩
abbrev cX7_seed : ByteArray := prog_9_method_67_code
def yX7_seed : MethodName := ⟨RX7, "seed", "(I)I"⟩
abbrev cX7_keep : ByteArray := prog_9_method_68_code
def yX7_keep : MethodName := ⟨RX7, "keep", "(I)I"⟩
abbrev cX7_goBack : ByteArray := prog_9_method_69_code
def yX7_goBack : MethodName := ⟨RX7, "goBack", "(I)I"⟩
def RJx145de : String := "java/io/Serializable"
def TJx145de : u_T := fun k => match k with
  | _ => ("", "", "", false)
def tyJx145de : Nat → FieldType := fun k => match k with
  | _ => .int
abbrev wsJx145de0 : List Cond := u_ws RJx145de TJx145de 0
theorem nmJx145de : ∀ a, a < 0 → ∀ b, b < 0 → a ≠ b → (TJx145de a).2.1 ≠ (TJx145de b).2.1 := by decide +kernel
theorem tyJx145de_ok : ∀ k, k < 0 → parseFieldDescriptor (TJx145de k).2.2.1 = some (tyJx145de k) := by decide +kernel
def RJx9f9b0 : String := "java/lang/CharSequence"
def TJx9f9b0 : u_T := fun k => match k with
  | _ => ("", "", "", false)
def tyJx9f9b0 : Nat → FieldType := fun k => match k with
  | _ => .int
abbrev wsJx9f9b00 : List Cond := u_ws RJx9f9b0 TJx9f9b0 0
theorem nmJx9f9b0 : ∀ a, a < 0 → ∀ b, b < 0 → a ≠ b → (TJx9f9b0 a).2.1 ≠ (TJx9f9b0 b).2.1 := by decide +kernel
theorem tyJx9f9b0_ok : ∀ k, k < 0 → parseFieldDescriptor (TJx9f9b0 k).2.2.1 = some (tyJx9f9b0 k) := by decide +kernel
def RJxb160c : String := "java/lang/Comparable"
def TJxb160c : u_T := fun k => match k with
  | _ => ("", "", "", false)
def tyJxb160c : Nat → FieldType := fun k => match k with
  | _ => .int
abbrev wsJxb160c0 : List Cond := u_ws RJxb160c TJxb160c 0
theorem nmJxb160c : ∀ a, a < 0 → ∀ b, b < 0 → a ≠ b → (TJxb160c a).2.1 ≠ (TJxb160c b).2.1 := by decide +kernel
theorem tyJxb160c_ok : ∀ k, k < 0 → parseFieldDescriptor (TJxb160c k).2.2.1 = some (tyJxb160c k) := by decide +kernel
def RJ6 : String := "java/lang/Integer"
def TJ6 : u_T := fun k => match k with
  | _ => ("", "", "", false)
def tyJ6 : Nat → FieldType := fun k => match k with
  | _ => .int
abbrev wsJ60 : List Cond := u_ws RJ6 TJ6 0
theorem nmJ6 : ∀ a, a < 0 → ∀ b, b < 0 → a ≠ b → (TJ6 a).2.1 ≠ (TJ6 b).2.1 := by decide +kernel
theorem tyJ6_ok : ∀ k, k < 0 → parseFieldDescriptor (TJ6 k).2.2.1 = some (tyJ6 k) := by decide +kernel
abbrev cJ6_bitCount_0f7a4 : ByteArray := prog_10_method_49_code
def yJ6_bitCount_0f7a4 : MethodName := ⟨RJ6, "bitCount", "(I)I"⟩
def RJ9 : String := "java/lang/Math"
def TJ9 : u_T := fun k => match k with
  | _ => ("", "", "", false)
def tyJ9 : Nat → FieldType := fun k => match k with
  | _ => .int
abbrev wsJ90 : List Cond := u_ws RJ9 TJ9 0
theorem nmJ9 : ∀ a, a < 0 → ∀ b, b < 0 → a ≠ b → (TJ9 a).2.1 ≠ (TJ9 b).2.1 := by decide +kernel
theorem tyJ9_ok : ∀ k, k < 0 → parseFieldDescriptor (TJ9 k).2.2.1 = some (tyJ9 k) := by decide +kernel
abbrev cJ9_max_7cf53 : ByteArray := prog_11_method_65_code
def yJ9_max_7cf53 : MethodName := ⟨RJ9, "max", "(II)I"⟩
abbrev cJ9_min_7cf53 : ByteArray := prog_11_method_69_code
def yJ9_min_7cf53 : MethodName := ⟨RJ9, "min", "(II)I"⟩
def RJ0 : String := "java/lang/String"
def TJ0 : u_T := fun k => match k with
  | _ => ("", "", "", false)
def tyJ0 : Nat → FieldType := fun k => match k with
  | _ => .int
abbrev wsJ00 : List Cond := u_ws RJ0 TJ0 0
theorem nmJ0 : ∀ a, a < 0 → ∀ b, b < 0 → a ≠ b → (TJ0 a).2.1 ≠ (TJ0 b).2.1 := by decide +kernel
theorem tyJ0_ok : ∀ k, k < 0 → parseFieldDescriptor (TJ0 k).2.2.1 = some (tyJ0 k) := by decide +kernel
abbrev cJ0_length_8abf5 : ByteArray := prog_12_method_54_code
def yJ0_length_8abf5 : MethodName := ⟨RJ0, "length", "()I"⟩
abbrev cJ0_charAt_5068e : ByteArray := prog_12_method_56_code
def yJ0_charAt_5068e : MethodName := ⟨RJ0, "charAt", "(I)C"⟩
abbrev cJ0_coder_7d493 : ByteArray := prog_12_method_152_code
def yJ0_coder_7d493 : MethodName := ⟨RJ0, "coder", "()B"⟩
abbrev cJ0_isLatin1_aae02 : ByteArray := prog_12_method_154_code
def yJ0_isLatin1_aae02 : MethodName := ⟨RJ0, "isLatin1", "()Z"⟩
abbrev cJ0_checkIndex_df160 : ByteArray := prog_12_method_155_code
def yJ0_checkIndex_df160 : MethodName := ⟨RJ0, "checkIndex", "(II)V"⟩
def RJ1 : String := "java/lang/StringLatin1"
def TJ1 : u_T := fun k => match k with
  | _ => ("", "", "", false)
def tyJ1 : Nat → FieldType := fun k => match k with
  | _ => .int
abbrev wsJ10 : List Cond := u_ws RJ1 TJ1 0
theorem nmJ1 : ∀ a, a < 0 → ∀ b, b < 0 → a ≠ b → (TJ1 a).2.1 ≠ (TJ1 b).2.1 := by decide +kernel
theorem tyJ1_ok : ∀ k, k < 0 → parseFieldDescriptor (TJ1 k).2.2.1 = some (tyJ1 k) := by decide +kernel
abbrev cJ1_charAt_3b067 : ByteArray := prog_13_method_2_code
def yJ1_charAt_3b067 : MethodName := ⟨RJ1, "charAt", "([BI)C"⟩
def RJ2 : String := "java/lang/StringUTF16"
def TJ2 : u_T := fun k => match k with
  | _ => ("", "", "", false)
def tyJ2 : Nat → FieldType := fun k => match k with
  | _ => .int
abbrev wsJ20 : List Cond := u_ws RJ2 TJ2 0
theorem nmJ2 : ∀ a, a < 0 → ∀ b, b < 0 → a ≠ b → (TJ2 a).2.1 ≠ (TJ2 b).2.1 := by decide +kernel
theorem tyJ2_ok : ∀ k, k < 0 → parseFieldDescriptor (TJ2 k).2.2.1 = some (tyJ2 k) := by decide +kernel
abbrev cJ2_getChar_3b067 : ByteArray := prog_14_method_5_code
def yJ2_getChar_3b067 : MethodName := ⟨RJ2, "getChar", "([BI)C"⟩
abbrev cJ2_length_9d52b : ByteArray := prog_14_method_6_code
def yJ2_length_9d52b : MethodName := ⟨RJ2, "length", "([B)I"⟩
abbrev cJ2_charAt_3b067 : ByteArray := prog_14_method_83_code
def yJ2_charAt_3b067 : MethodName := ⟨RJ2, "charAt", "([BI)C"⟩
abbrev cJ2_checkIndex_2214a : ByteArray := prog_14_method_91_code
def yJ2_checkIndex_2214a : MethodName := ⟨RJ2, "checkIndex", "(I[B)V"⟩
def RJ10 : String := "java/lang/System"
def TJ10 : u_T := fun k => match k with
  | _ => ("", "", "", false)
def tyJ10 : Nat → FieldType := fun k => match k with
  | _ => .int
abbrev wsJ100 : List Cond := u_ws RJ10 TJ10 0
theorem nmJ10 : ∀ a, a < 0 → ∀ b, b < 0 → a ≠ b → (TJ10 a).2.1 ≠ (TJ10 b).2.1 := by decide +kernel
theorem tyJ10_ok : ∀ k, k < 0 → parseFieldDescriptor (TJ10 k).2.2.1 = some (tyJ10 k) := by decide +kernel
def RJxfd54e : String := "java/lang/constant/Constable"
def TJxfd54e : u_T := fun k => match k with
  | _ => ("", "", "", false)
def tyJxfd54e : Nat → FieldType := fun k => match k with
  | _ => .int
abbrev wsJxfd54e0 : List Cond := u_ws RJxfd54e TJxfd54e 0
theorem nmJxfd54e : ∀ a, a < 0 → ∀ b, b < 0 → a ≠ b → (TJxfd54e a).2.1 ≠ (TJxfd54e b).2.1 := by decide +kernel
theorem tyJxfd54e_ok : ∀ k, k < 0 → parseFieldDescriptor (TJxfd54e k).2.2.1 = some (tyJxfd54e k) := by decide +kernel
def RJx3cf43 : String := "java/lang/constant/ConstantDesc"
def TJx3cf43 : u_T := fun k => match k with
  | _ => ("", "", "", false)
def tyJx3cf43 : Nat → FieldType := fun k => match k with
  | _ => .int
abbrev wsJx3cf430 : List Cond := u_ws RJx3cf43 TJx3cf43 0
theorem nmJx3cf43 : ∀ a, a < 0 → ∀ b, b < 0 → a ≠ b → (TJx3cf43 a).2.1 ≠ (TJx3cf43 b).2.1 := by decide +kernel
theorem tyJx3cf43_ok : ∀ k, k < 0 → parseFieldDescriptor (TJx3cf43 k).2.2.1 = some (tyJx3cf43 k) := by decide +kernel
def RJ7 : String := "java/util/Arrays"
def TJ7 : u_T := fun k => match k with
  | _ => ("", "", "", false)
def tyJ7 : Nat → FieldType := fun k => match k with
  | _ => .int
abbrev wsJ70 : List Cond := u_ws RJ7 TJ7 0
theorem nmJ7 : ∀ a, a < 0 → ∀ b, b < 0 → a ≠ b → (TJ7 a).2.1 ≠ (TJ7 b).2.1 := by decide +kernel
theorem tyJ7_ok : ∀ k, k < 0 → parseFieldDescriptor (TJ7 k).2.2.1 = some (tyJ7 k) := by decide +kernel
abbrev cJ7_fill_53178 : ByteArray := prog_16_method_103_code
def yJ7_fill_53178 : MethodName := ⟨RJ7, "fill", "([II)V"⟩
def RJ3 : String := "jdk/internal/util/Preconditions"
def TJ3 : u_T := fun k => match k with
  | _ => ("", "", "", false)
def tyJ3 : Nat → FieldType := fun k => match k with
  | _ => .int
abbrev wsJ30 : List Cond := u_ws RJ3 TJ3 0
theorem nmJ3 : ∀ a, a < 0 → ∀ b, b < 0 → a ≠ b → (TJ3 a).2.1 ≠ (TJ3 b).2.1 := by decide +kernel
theorem tyJ3_ok : ∀ k, k < 0 → parseFieldDescriptor (TJ3 k).2.2.1 = some (tyJ3 k) := by decide +kernel
abbrev cJ3_checkIndex_8e157 : ByteArray := prog_17_method_11_code
def yJ3_checkIndex_8e157 : MethodName := ⟨RJ3, "checkIndex", "(IILjava/util/function/BiFunction;)I"⟩
def RL : String := "DimBooksLaw"
abbrev cL_law : ByteArray := code
def yL_law : MethodName := ⟨RL, "law", "([I)Z"⟩
end
section
def wsL_law_r1 : List Cond := [Cond.classLink RL 7 RX6, Cond.instantiable RX6 12, Cond.initialized RX6, Cond.classLink RL 10 RX7, Cond.instantiable RX7 25, Cond.initialized RX7, Cond.constantLong RL 13 (4294967295), Cond.methodLink RL 9 yX6_init, Cond.instanceMethod yX6_init, Cond.code yX6_init cX6_init 2 none, Cond.methodLink RX6 1 objectInit, Cond.instanceMethod objectInit, Cond.code objectInit ⟨#[0xb1]⟩ 1 none, Cond.classLink RX6 7 RX4, Cond.instantiable RX4 5, Cond.initialized RX4, Cond.fieldLink RX6 10 "DimBooks" "script" "LDimBooks$Script;", Cond.classLink RX6 16 RX1, Cond.instantiable RX1 8, Cond.initialized RX1, Cond.fieldLink RX6 19 "DimBooks" "draft" "LDimBooks$Library;", Cond.fieldLink RX6 23 "DimBooks" "lib" "LDimBooks$Library;", Cond.classLink RX6 26 RX5, Cond.instantiable RX5 12]
def wsL_law_r2 : List Cond := [Cond.initialized RX5, Cond.fieldLink RX6 31 "DimBooks" "now" "LDimBooks$State;", Cond.fieldLink RX6 35 "DimBooks" "trial" "LDimBooks$State;", Cond.fieldLink RX6 38 "DimBooks" "images" "[LDimBooks$State;", Cond.fieldLink RX6 42 "DimBooks" "imagesKept" "I", Cond.classLink RX6 46 RX3, Cond.instantiable RX3 4, Cond.initialized RX3, Cond.fieldLink RX6 49 "DimBooks" "requests" "LDimBooks$Requests;", Cond.classLink RX6 53 RX0, Cond.instantiable RX0 3, Cond.initialized RX0, Cond.fieldLink RX6 56 "DimBooks" "choice" "LDimBooks$Choice;", Cond.arrayClass .int, Cond.fieldLink RX6 60 "DimBooks" "diary" "[I", Cond.fieldLink RX6 64 "DimBooks" "entries" "I", Cond.fieldLink RX6 67 "DimBooks" "odds" "[I", Cond.instanceMethod yX4_init, Cond.code yX4_init cX4_init 1 none, Cond.methodLink RX4 3 objectInit, Cond.fieldLink RX4 9 "DimBooks$Script" "bytes" "[I", Cond.fieldLink RX4 15 "DimBooks$Script" "length" "I", Cond.fieldLink RX4 19 "DimBooks$Script" "fault" "I", Cond.fieldLink RX4 22 "DimBooks$Script" "faultAt" "I"]
def wsL_law_r3 : List Cond := [Cond.fieldLink RX4 25 "DimBooks$Script" "at" "I", Cond.instanceMethod yX1_init, Cond.code yX1_init cX1_init 1 none, Cond.methodLink RX1 3 objectInit, Cond.fieldLink RX1 9 "DimBooks$Library" "worths" "[I", Cond.fieldLink RX1 15 "DimBooks$Library" "firstShades" "[I", Cond.fieldLink RX1 18 "DimBooks$Library" "kinds" "[I", Cond.fieldLink RX1 21 "DimBooks$Library" "terms" "[I", Cond.fieldLink RX1 24 "DimBooks$Library" "lines" "I", Cond.fieldLink RX1 28 "DimBooks$Library" "readers" "I", Cond.fieldLink RX1 31 "DimBooks$Library" "error" "I", Cond.fieldLink RX1 34 "DimBooks$Library" "errorTold" "Z", Cond.methodLink RX6 28 yX5_init, Cond.instanceMethod yX5_init, Cond.code yX5_init cX5_init 2 none, Cond.methodLink RX5 3 objectInit, Cond.classLink RX5 9 RX2, Cond.instantiable RX2 4, Cond.initialized RX2, Cond.fieldLink RX5 12 "DimBooks$State" "log" "LDimBooks$Log;", Cond.fieldLink RX5 18 "DimBooks$State" "lineOf" "[I", Cond.fieldLink RX5 22 "DimBooks$State" "variantOf" "[I", Cond.fieldLink RX5 25 "DimBooks$State" "shadeOf" "[I", Cond.fieldLink RX5 28 "DimBooks$State" "writerOf" "[I"]
def wsL_law_r4 : List Cond := [Cond.fieldLink RX5 31 "DimBooks$State" "variantHeld" "[I", Cond.fieldLink RX5 34 "DimBooks$State" "daySince" "[I", Cond.fieldLink RX5 37 "DimBooks$State" "entryShades" "[I", Cond.fieldLink RX5 40 "DimBooks$State" "pages" "I", Cond.fieldLink RX5 44 "DimBooks$State" "day" "I", Cond.fieldLink RX5 47 "DimBooks$State" "seed" "I", Cond.fieldLink RX5 50 "DimBooks$State" "lib" "LDimBooks$Library;", Cond.instanceMethod yX2_init, Cond.code yX2_init cX2_init 1 none, Cond.methodLink RX2 3 objectInit, Cond.fieldLink RX2 9 "DimBooks$Log" "days" "[I", Cond.fieldLink RX2 15 "DimBooks$Log" "pages" "[I", Cond.fieldLink RX2 18 "DimBooks$Log" "readers" "[I", Cond.fieldLink RX2 21 "DimBooks$Log" "count" "I", Cond.methodLink RX5 54 yJ7_fill_53178, Cond.static yJ7_fill_53178, Cond.initialized RJ7, Cond.code yJ7_fill_53178 cJ7_fill_53178 4 none, Cond.instanceMethod yX3_init, Cond.code yX3_init cX3_init 1 none, Cond.methodLink RX3 3 objectInit, Cond.fieldLink RX3 9 "DimBooks$Requests" "readers" "[I", Cond.fieldLink RX3 15 "DimBooks$Requests" "lines" "[I", Cond.fieldLink RX3 18 "DimBooks$Requests" "worths" "[I"]
def wsL_law_r5 : List Cond := [Cond.fieldLink RX3 21 "DimBooks$Requests" "count" "I", Cond.instanceMethod yX0_init, Cond.code yX0_init cX0_init 1 none, Cond.methodLink RX0 1 objectInit, Cond.fieldLink RX0 7 "DimBooks$Choice" "set" "I", Cond.fieldLink RX0 13 "DimBooks$Choice" "sum" "I", Cond.fieldLink RX0 16 "DimBooks$Choice" "lost" "I", Cond.methodLink RL 12 yX7_init, Cond.instanceMethod yX7_init, Cond.code yX7_init cX7_init 1 none, Cond.methodLink RX7 1 objectInit, Cond.fieldLink RX7 7 "DimBooksModel" "w" "[I", Cond.arrayClass .boolean, Cond.fieldLink RX7 13 "DimBooksModel" "isKept" "[Z", Cond.fieldLink RX7 17 "DimBooksModel" "worths" "[I", Cond.fieldLink RX7 20 "DimBooksModel" "shades" "[I", Cond.fieldLink RX7 23 "DimBooksModel" "kinds" "[I", Cond.fieldLink RX7 26 "DimBooksModel" "fades" "[I", Cond.fieldLink RX7 29 "DimBooksModel" "many" "[I", Cond.fieldLink RX7 32 "DimBooksModel" "error" "I", Cond.fieldLink RX7 36 "DimBooksModel" "text" "[I", Cond.fieldLink RX7 39 "DimBooksModel" "fault" "I", Cond.fieldLink RX7 42 "DimBooksModel" "asker" "[I", Cond.fieldLink RX7 45 "DimBooksModel" "asked" "[I"]
def wsL_law_r6 : List Cond := [Cond.fieldLink RX7 48 "DimBooksModel" "offered" "[I", Cond.fieldLink RX7 51 "DimBooksModel" "odds" "[I", Cond.fieldLink RX7 54 "DimBooksModel" "notes" "[I", Cond.methodLink RL 15 yX6_feed, Cond.instanceMethod yX6_feed, Cond.selects RX6 yX6_feed yX6_feed, Cond.code yX6_feed cX6_feed 5 (some .int), Cond.constant RX6 70 (-1000000002), Cond.fieldLink RX6 71 "DimBooks$Script" "length" "I", Cond.constant RX6 74 (-1000000004), Cond.methodLink RX6 75 yX4_append, Cond.instanceMethod yX4_append, Cond.selects RX4 yX4_append yX4_append, Cond.code yX4_append cX4_append 2 none, Cond.methodLink RL 19 yX7_feed, Cond.instanceMethod yX7_feed, Cond.selects RX7 yX7_feed yX7_feed, Cond.code yX7_feed cX7_feed 5 (some .int), Cond.constantLong RX7 57 (8), Cond.constant RX7 63 (-1000000002), Cond.fieldLink RX7 64 "DimBooksModel" "textSize" "I", Cond.constant RX7 67 (-1000000004), Cond.constantLong RX7 68 (255), Cond.methodLink RX7 59 yX7_in]
def wsL_law_r7 : List Cond := [Cond.static yX7_in, Cond.code yX7_in cX7_in 6 (some .boolean), Cond.methodLink RL 20 yX6_library, Cond.instanceMethod yX6_library, Cond.selects RX6 yX6_library yX6_library, Cond.code yX6_library cX6_library 1 (some .int), Cond.fieldLink RX6 82 "DimBooks$Script" "fault" "I", Cond.fieldLink RX6 91 "DimBooks$Requests" "count" "I", Cond.fieldLink RX6 94 "DimBooks$Library" "lines" "I", Cond.methodLink RX6 79 yX4_parseInto, Cond.instanceMethod yX4_parseInto, Cond.selects RX4 yX4_parseInto yX4_parseInto, Cond.code yX4_parseInto cX4_parseInto 3 none, Cond.methodLink RX4 28 yX1_clear, Cond.instanceMethod yX1_clear, Cond.selects RX1 yX1_clear yX1_clear, Cond.code yX1_clear cX1_clear 1 none, Cond.methodLink RX4 33 yX4_skipBlanks, Cond.instanceMethod yX4_skipBlanks, Cond.selects RX4 yX4_skipBlanks yX4_skipBlanks, Cond.code yX4_skipBlanks cX4_skipBlanks 1 none, Cond.methodLink RX4 36 yX4_parseClause, Cond.instanceMethod yX4_parseClause, Cond.selects RX4 yX4_parseClause yX4_parseClause]
def wsL_law_r8 : List Cond := [Cond.code yX4_parseClause cX4_parseClause 4 none, Cond.methodLink RX4 40 yX4_wordEnd, Cond.instanceMethod yX4_wordEnd, Cond.selects RX4 yX4_wordEnd yX4_wordEnd, Cond.code yX4_wordEnd cX4_wordEnd 2 (some .int), Cond.methodLink RX4 46 yX4_spells, Cond.instanceMethod yX4_spells, Cond.selects RX4 yX4_spells yX4_spells, Cond.code yX4_spells cX4_spells 5 (some .boolean), Cond.methodLink RX4 112 yJ0_length_8abf5, Cond.instanceMethod yJ0_length_8abf5, Cond.selects RJ0 yJ0_length_8abf5 yJ0_length_8abf5, Cond.initialized RJ0, Cond.code yJ0_length_8abf5 cJ0_length_8abf5 1 (some .int), Cond.fieldLink RJ0 9 "java/lang/String" "value" "[B", Cond.methodLink RJ0 335 yJ0_coder_7d493, Cond.instanceMethod yJ0_coder_7d493, Cond.selects RJ0 yJ0_coder_7d493 yJ0_coder_7d493, Cond.code yJ0_coder_7d493 cJ0_coder_7d493 1 (some .byte), Cond.fieldLink RJ0 38 "java/lang/String" "COMPACT_STRINGS" "Z", Cond.fieldLink RJ0 15 "java/lang/String" "coder" "B", Cond.methodLink RX4 116 yJ0_charAt_5068e, Cond.instanceMethod yJ0_charAt_5068e, Cond.selects RJ0 yJ0_charAt_5068e yJ0_charAt_5068e]
def wsL_law_r9 : List Cond := [Cond.code yJ0_charAt_5068e cJ0_charAt_5068e 2 (some .char), Cond.methodLink RJ0 492 yJ0_isLatin1_aae02, Cond.instanceMethod yJ0_isLatin1_aae02, Cond.selects RJ0 yJ0_isLatin1_aae02 yJ0_isLatin1_aae02, Cond.code yJ0_isLatin1_aae02 cJ0_isLatin1_aae02 1 (some .boolean), Cond.methodLink RJ0 495 yJ1_charAt_3b067, Cond.static yJ1_charAt_3b067, Cond.initialized RJ1, Cond.code yJ1_charAt_3b067 cJ1_charAt_3b067 2 (some .char), Cond.methodLink RJ1 9 yJ0_checkIndex_df160, Cond.static yJ0_checkIndex_df160, Cond.code yJ0_checkIndex_df160 cJ0_checkIndex_df160 2 none, Cond.fieldLink RJ0 1053 "jdk/internal/util/Preconditions" "SIOOBE_FORMATTER" "Ljava/util/function/BiFunction;", Cond.methodLink RJ0 1059 yJ3_checkIndex_8e157, Cond.static yJ3_checkIndex_8e157, Cond.initialized RJ3, Cond.code yJ3_checkIndex_8e157 cJ3_checkIndex_8e157 3 (some .int), Cond.methodLink RJ0 498 yJ2_charAt_3b067, Cond.static yJ2_charAt_3b067, Cond.initialized RJ2, Cond.code yJ2_charAt_3b067 cJ2_charAt_3b067 2 (some .char), Cond.methodLink RJ2 67 yJ2_checkIndex_2214a, Cond.static yJ2_checkIndex_2214a, Cond.code yJ2_checkIndex_2214a cJ2_checkIndex_2214a 2 none]
def wsL_law_r10 : List Cond := [Cond.methodLink RJ2 48 yJ2_length_9d52b, Cond.static yJ2_length_9d52b, Cond.code yJ2_length_9d52b cJ2_length_9d52b 1 (some .int), Cond.methodLink RJ2 414 yJ0_checkIndex_df160, Cond.methodLink RJ2 71 yJ2_getChar_3b067, Cond.static yJ2_getChar_3b067, Cond.code yJ2_getChar_3b067 cJ2_getChar_3b067 2 (some .char), Cond.fieldLink RJ2 44 "java/lang/StringUTF16" "$assertionsDisabled" "Z", Cond.fieldLink RJ2 59 "java/lang/StringUTF16" "HI_BYTE_SHIFT" "I", Cond.fieldLink RJ2 63 "java/lang/StringUTF16" "LO_BYTE_SHIFT" "I", Cond.methodLink RX4 50 yX4_parseLine, Cond.instanceMethod yX4_parseLine, Cond.selects RX4 yX4_parseLine yX4_parseLine, Cond.code yX4_parseLine cX4_parseLine 5 none, Cond.fieldLink RX4 68 "DimBooks$Library" "lines" "I", Cond.methodLink RX4 64 yX4_fail, Cond.instanceMethod yX4_fail, Cond.selects RX4 yX4_fail yX4_fail, Cond.code yX4_fail cX4_fail 3 none, Cond.methodLink RX4 71 yX4_takeNumber, Cond.instanceMethod yX4_takeNumber, Cond.selects RX4 yX4_takeNumber yX4_takeNumber, Cond.code yX4_takeNumber cX4_takeNumber 5 (some .int), Cond.methodLink RX4 108 yX4_isFigure]
def wsL_law_r11 : List Cond := [Cond.static yX4_isFigure, Cond.code yX4_isFigure cX4_isFigure 1 (some .boolean), Cond.methodLink RX4 75 yX4_takeEnd, Cond.instanceMethod yX4_takeEnd, Cond.selects RX4 yX4_takeEnd yX4_takeEnd, Cond.code yX4_takeEnd cX4_takeEnd 1 none, Cond.methodLink RX4 78 yX1_addLine, Cond.instanceMethod yX1_addLine, Cond.selects RX1 yX1_addLine yX1_addLine, Cond.code yX1_addLine cX1_addLine 3 none, Cond.methodLink RX4 56 yX4_parseReader, Cond.instanceMethod yX4_parseReader, Cond.selects RX4 yX4_parseReader yX4_parseReader, Cond.code yX4_parseReader cX4_parseReader 5 none, Cond.fieldLink RX4 81 "DimBooks$Library" "readers" "I", Cond.methodLink RX4 84 yX4_takeKind, Cond.instanceMethod yX4_takeKind, Cond.selects RX4 yX4_takeKind yX4_takeKind, Cond.code yX4_takeKind cX4_takeKind 3 (some .int), Cond.methodLink RX4 87 yX1_addReader, Cond.instanceMethod yX1_addReader, Cond.selects RX1 yX1_addReader yX1_addReader, Cond.code yX1_addReader cX1_addReader 3 none, Cond.methodLink RX4 61 yX4_parseError]
def wsL_law_r12 : List Cond := [Cond.instanceMethod yX4_parseError, Cond.selects RX4 yX4_parseError yX4_parseError, Cond.code yX4_parseError cX4_parseError 4 none, Cond.fieldLink RX4 90 "DimBooks$Library" "errorTold" "Z", Cond.methodLink RX4 94 yX1_tellError, Cond.instanceMethod yX1_tellError, Cond.selects RX1 yX1_tellError yX1_tellError, Cond.code yX1_tellError cX1_tellError 2 none, Cond.methodLink RX6 85 yX1_copyFrom, Cond.instanceMethod yX1_copyFrom, Cond.selects RX1 yX1_copyFrom yX1_copyFrom, Cond.code yX1_copyFrom cX1_copyFrom 2 none, Cond.methodLink RX1 38 arraycopyName, Cond.native arraycopyName, Cond.static arraycopyName, Cond.initialized "java/lang/System", Cond.methodLink RX6 88 yX5_open, Cond.instanceMethod yX5_open, Cond.selects RX5 yX5_open yX5_open, Cond.code yX5_open cX5_open 2 none, Cond.fieldLink RX5 60 "DimBooks$Library" "lines" "I", Cond.fieldLink RX5 65 "DimBooks$Library" "firstShades" "[I", Cond.fieldLink RX5 68 "DimBooks$Log" "count" "I", Cond.methodLink RL 24 yX7_library]
def wsL_law_r13 : List Cond := [Cond.instanceMethod yX7_library, Cond.selects RX7 yX7_library yX7_library, Cond.code yX7_library cX7_library 3 (some .int), Cond.fieldLink RX7 70 "DimBooksModel" "at" "I", Cond.fieldLink RX7 73 "DimBooksModel" "faultOf" "I", Cond.fieldLink RX7 117 "DimBooksModel" "newError" "I", Cond.fieldLink RX7 113 "DimBooksModel" "isTold" "Z", Cond.constantLong RX7 123 (160), Cond.constantLong RX7 125 (415), Cond.constantLong RX7 127 (120), Cond.constantLong RX7 129 (159), Cond.fieldLink RX7 131 "DimBooksModel" "requests" "I", Cond.fieldLink RX7 134 "DimBooksModel" "noted" "I", Cond.methodLink RX7 76 yX7_here, Cond.instanceMethod yX7_here, Cond.selects RX7 yX7_here yX7_here, Cond.code yX7_here cX7_here 1 (some .int), Cond.methodLink RX7 120 yX7_takeClause, Cond.instanceMethod yX7_takeClause, Cond.selects RX7 yX7_takeClause yX7_takeClause, Cond.code yX7_takeClause cX7_takeClause 2 none, Cond.fieldLink RX7 80 "DimBooksModel" "first" "I", Cond.methodLink RX7 103 yX7_takeWord, Cond.instanceMethod yX7_takeWord]
def wsL_law_r14 : List Cond := [Cond.selects RX7 yX7_takeWord yX7_takeWord, Cond.code yX7_takeWord cX7_takeWord 2 none, Cond.constantLong RX7 83 (97), Cond.constantLong RX7 85 (122), Cond.fieldLink RX7 87 "DimBooksModel" "length" "I", Cond.methodLink RX7 99 yX7_isWord, Cond.instanceMethod yX7_isWord, Cond.selects RX7 yX7_isWord yX7_isWord, Cond.code yX7_isWord cX7_isWord 11 (some .boolean), Cond.methodLink RX7 94 yX7_want, Cond.instanceMethod yX7_want, Cond.selects RX7 yX7_want yX7_want, Cond.code yX7_want cX7_want 4 (some .boolean), Cond.methodLink RX7 106 yX7_takeNumber, Cond.instanceMethod yX7_takeNumber, Cond.selects RX7 yX7_takeNumber yX7_takeNumber, Cond.code yX7_takeNumber cX7_takeNumber 6 (some .int), Cond.constantLong RX7 90 (48), Cond.constantLong RX7 92 (57), Cond.constant RX7 98 (99999), Cond.methodLink RX7 110 yX7_kindHere, Cond.instanceMethod yX7_kindHere, Cond.selects RX7 yX7_kindHere yX7_kindHere, Cond.code yX7_kindHere cX7_kindHere 2 (some .int)]
def wsL_law_r15 : List Cond := [Cond.methodLink RL 25 yX6_fault, Cond.instanceMethod yX6_fault, Cond.selects RX6 yX6_fault yX6_fault, Cond.code yX6_fault cX6_fault 1 (some .int), Cond.fieldLink RX6 97 "DimBooks$Script" "faultAt" "I", Cond.methodLink RL 28 yX7_fault, Cond.instanceMethod yX7_fault, Cond.selects RX7 yX7_fault yX7_fault, Cond.code yX7_fault cX7_fault 1 (some .int), Cond.methodLink RL 29 yX6_told, Cond.instanceMethod yX6_told, Cond.selects RX6 yX6_told yX6_told, Cond.code yX6_told cX6_told 2 (some .int), Cond.fieldLink RX6 100 "DimBooks$Library" "readers" "I", Cond.fieldLink RX6 103 "DimBooks$State" "pages" "I", Cond.fieldLink RX6 106 "DimBooks$State" "log" "LDimBooks$Log;", Cond.fieldLink RX6 110 "DimBooks$Log" "count" "I", Cond.fieldLink RX6 113 "DimBooks$State" "day" "I", Cond.fieldLink RX6 116 "DimBooks$Library" "error" "I", Cond.methodLink RX6 119 yX5_countKept, Cond.instanceMethod yX5_countKept, Cond.selects RX5 yX5_countKept yX5_countKept, Cond.code yX5_countKept cX5_countKept 4 (some .int), Cond.methodLink RX5 158 yX5_isKept]
def wsL_law_r16 : List Cond := [Cond.instanceMethod yX5_isKept, Cond.selects RX5 yX5_isKept yX5_isKept, Cond.code yX5_isKept cX5_isKept 5 (some .boolean), Cond.fieldLink RX5 112 "DimBooks$Library" "readers" "I", Cond.methodLink RX5 155 yX5_truePages, Cond.instanceMethod yX5_truePages, Cond.selects RX5 yX5_truePages yX5_truePages, Cond.code yX5_truePages cX5_truePages 2 (some .int), Cond.methodLink RX5 165 yX5_pagesLeftWith, Cond.instanceMethod yX5_pagesLeftWith, Cond.selects RX5 yX5_pagesLeftWith yX5_pagesLeftWith, Cond.code yX5_pagesLeftWith cX5_pagesLeftWith 5 (some .int), Cond.methodLink RX5 162 yX5_isLeft, Cond.instanceMethod yX5_isLeft, Cond.selects RX5 yX5_isLeft yX5_isLeft, Cond.code yX5_isLeft cX5_isLeft 3 (some .boolean), Cond.methodLink RX5 137 yX5_daysAhead, Cond.instanceMethod yX5_daysAhead, Cond.selects RX5 yX5_daysAhead yX5_daysAhead, Cond.code yX5_daysAhead cX5_daysAhead 2 (some .int), Cond.methodLink RX5 132 Lib.Math.min.name, Cond.static Lib.Math.min.name, Cond.initialized "java/lang/Math", Cond.code Lib.Math.min.name Lib.Math.min.code 2 (some .int)]
def wsL_law_r17 : List Cond := [Cond.methodLink RX5 95 yX5_variantAt, Cond.instanceMethod yX5_variantAt, Cond.selects RX5 yX5_variantAt yX5_variantAt, Cond.code yX5_variantAt cX5_variantAt 5 (some .int), Cond.fieldLink RX5 89 "DimBooks$Library" "terms" "[I", Cond.methodLink RX5 85 yX5_dayLearnt, Cond.instanceMethod yX5_dayLearnt, Cond.selects RX5 yX5_dayLearnt yX5_dayLearnt, Cond.code yX5_dayLearnt cX5_dayLearnt 3 (some .int), Cond.methodLink RX5 92 yX5_heart, Cond.static yX5_heart, Cond.code yX5_heart cX5_heart 2 (some .int), Cond.methodLink RL 33 yX7_told, Cond.instanceMethod yX7_told, Cond.selects RX7 yX7_told yX7_told, Cond.code yX7_told cX7_told 2 (some .int), Cond.methodLink RX7 145 yX7_keptMany, Cond.instanceMethod yX7_keptMany, Cond.selects RX7 yX7_keptMany yX7_keptMany, Cond.code yX7_keptMany cX7_keptMany 4 (some .int), Cond.methodLink RX7 137 yX7_isKeptLine, Cond.instanceMethod yX7_isKeptLine, Cond.selects RX7 yX7_isKeptLine yX7_isKeptLine, Cond.code yX7_isKeptLine cX7_isKeptLine 5 (some .boolean)]
def wsL_law_r18 : List Cond := [Cond.methodLink RX7 141 yX7_one, Cond.static yX7_one, Cond.code yX7_one cX7_one 1 (some .int), Cond.methodLink RL 34 yX6_line, Cond.instanceMethod yX6_line, Cond.selects RX6 yX6_line yX6_line, Cond.code yX6_line cX6_line 3 (some .int), Cond.constant RX6 127 (-1000000001), Cond.fieldLink RX6 128 "DimBooks$Library" "worths" "[I", Cond.fieldLink RX6 144 "DimBooks$State" "entryShades" "[I", Cond.methodLink RX6 123 yX1_hasLine, Cond.instanceMethod yX1_hasLine, Cond.selects RX1 yX1_hasLine yX1_hasLine, Cond.code yX1_hasLine cX1_hasLine 2 (some .boolean), Cond.methodLink RX6 131 yX5_isKept, Cond.methodLink RX6 135 yX5_pagesLeft, Cond.instanceMethod yX5_pagesLeft, Cond.selects RX5 yX5_pagesLeft yX5_pagesLeft, Cond.code yX5_pagesLeft cX5_pagesLeft 4 (some .int), Cond.methodLink RX6 138 yX5_knowers, Cond.instanceMethod yX5_knowers, Cond.selects RX5 yX5_knowers yX5_knowers, Cond.code yX5_knowers cX5_knowers 4 (some .int), Cond.methodLink RX5 168 yX5_knowsAny]
def wsL_law_r19 : List Cond := [Cond.instanceMethod yX5_knowsAny, Cond.selects RX5 yX5_knowsAny yX5_knowsAny, Cond.code yX5_knowsAny cX5_knowsAny 3 (some .boolean), Cond.methodLink RX5 99 yX5_variantKnown, Cond.instanceMethod yX5_variantKnown, Cond.selects RX5 yX5_variantKnown yX5_variantKnown, Cond.code yX5_variantKnown cX5_variantKnown 3 (some .int), Cond.methodLink RX6 141 yX5_voteOn, Cond.instanceMethod yX5_voteOn, Cond.selects RX5 yX5_voteOn yX5_voteOn, Cond.code yX5_voteOn cX5_voteOn 5 (some .int), Cond.methodLink RX5 174 yX5_pagesLeft, Cond.methodLink RX5 177 yX5_knowers, Cond.methodLink RX5 180 yJ6_bitCount_0f7a4, Cond.static yJ6_bitCount_0f7a4, Cond.initialized RJ6, Cond.code yJ6_bitCount_0f7a4 cJ6_bitCount_0f7a4 1 (some .int), Cond.constant RJ6 265 (1431655765), Cond.constant RJ6 266 (858993459), Cond.constant RJ6 267 (252645135), Cond.methodLink RX5 171 yX5_knowersOf, Cond.instanceMethod yX5_knowersOf, Cond.selects RX5 yX5_knowersOf yX5_knowersOf, Cond.code yX5_knowersOf cX5_knowersOf 5 (some .int)]
def wsL_law_r20 : List Cond := [Cond.methodLink RL 38 yX7_line, Cond.instanceMethod yX7_line, Cond.selects RX7 yX7_line yX7_line, Cond.code yX7_line cX7_line 3 (some .int), Cond.constant RX7 165 (-1000000001), Cond.methodLink RX7 161 yX7_isLine, Cond.instanceMethod yX7_isLine, Cond.selects RX7 yX7_isLine yX7_isLine, Cond.code yX7_isLine cX7_isLine 2 (some .boolean), Cond.methodLink RX7 149 yX7_pagesOf, Cond.instanceMethod yX7_pagesOf, Cond.selects RX7 yX7_pagesOf yX7_pagesOf, Cond.code yX7_pagesOf cX7_pagesOf 4 (some .int), Cond.methodLink RX7 152 yX7_knowers, Cond.instanceMethod yX7_knowers, Cond.selects RX7 yX7_knowers yX7_knowers, Cond.code yX7_knowers cX7_knowers 4 (some .int), Cond.methodLink RX7 166 yX7_vote, Cond.instanceMethod yX7_vote, Cond.selects RX7 yX7_vote yX7_vote, Cond.code yX7_vote cX7_vote 5 (some .int), Cond.methodLink RX7 155 yX7_ones, Cond.static yX7_ones, Cond.code yX7_ones cX7_ones 3 (some .int)]
def wsL_law_r21 : List Cond := [Cond.methodLink RX7 158 yX7_votesFor, Cond.instanceMethod yX7_votesFor, Cond.selects RX7 yX7_votesFor yX7_votesFor, Cond.code yX7_votesFor cX7_votesFor 5 (some .int), Cond.methodLink RL 39 yX6_reader, Cond.instanceMethod yX6_reader, Cond.selects RX6 yX6_reader yX6_reader, Cond.code yX6_reader cX6_reader 3 (some .int), Cond.fieldLink RX6 150 "DimBooks$Library" "kinds" "[I", Cond.fieldLink RX6 153 "DimBooks$Library" "terms" "[I", Cond.methodLink RX6 147 yX1_hasReader, Cond.instanceMethod yX1_hasReader, Cond.selects RX1 yX1_hasReader yX1_hasReader, Cond.code yX1_hasReader cX1_hasReader 2 (some .boolean), Cond.methodLink RX6 156 yX5_linesKnown, Cond.instanceMethod yX5_linesKnown, Cond.selects RX5 yX5_linesKnown yX5_linesKnown, Cond.code yX5_linesKnown cX5_linesKnown 4 (some .int), Cond.methodLink RL 42 yX7_reader, Cond.instanceMethod yX7_reader, Cond.selects RX7 yX7_reader yX7_reader, Cond.code yX7_reader cX7_reader 3 (some .int), Cond.methodLink RX7 169 yX7_isReader, Cond.instanceMethod yX7_isReader]
def wsL_law_r22 : List Cond := [Cond.selects RX7 yX7_isReader yX7_isReader, Cond.code yX7_isReader cX7_isReader 2 (some .boolean), Cond.methodLink RX7 172 yX7_knownBy, Cond.instanceMethod yX7_knownBy, Cond.selects RX7 yX7_knownBy yX7_knownBy, Cond.code yX7_knownBy cX7_knownBy 4 (some .int), Cond.methodLink RL 43 yX6_page, Cond.instanceMethod yX6_page, Cond.selects RX6 yX6_page yX6_page, Cond.code yX6_page cX6_page 3 (some .int), Cond.fieldLink RX6 162 "DimBooks$State" "lineOf" "[I", Cond.fieldLink RX6 165 "DimBooks$State" "variantOf" "[I", Cond.fieldLink RX6 168 "DimBooks$State" "shadeOf" "[I", Cond.methodLink RX6 159 yX5_hasPage, Cond.instanceMethod yX5_hasPage, Cond.selects RX5 yX5_hasPage yX5_hasPage, Cond.code yX5_hasPage cX5_hasPage 2 (some .boolean), Cond.methodLink RX6 171 yX2_timesRead, Cond.instanceMethod yX2_timesRead, Cond.selects RX2 yX2_timesRead yX2_timesRead, Cond.code yX2_timesRead cX2_timesRead 4 (some .int), Cond.methodLink RL 46 yX7_page, Cond.instanceMethod yX7_page, Cond.selects RX7 yX7_page yX7_page]
def wsL_law_r23 : List Cond := [Cond.code yX7_page cX7_page 3 (some .int), Cond.methodLink RX7 175 yX7_isPage, Cond.instanceMethod yX7_isPage, Cond.selects RX7 yX7_isPage yX7_isPage, Cond.code yX7_isPage cX7_isPage 2 (some .boolean), Cond.methodLink RX7 178 yX7_readMany, Cond.instanceMethod yX7_readMany, Cond.selects RX7 yX7_readMany yX7_readMany, Cond.code yX7_readMany cX7_readMany 4 (some .int), Cond.methodLink RL 47 yX6_knows, Cond.instanceMethod yX6_knows, Cond.selects RX6 yX6_knows yX6_knows, Cond.code yX6_knows cX6_knows 4 (some .int), Cond.methodLink RX6 174 yX5_knowsAny, Cond.methodLink RX6 177 yX5_variantKnown, Cond.methodLink RX6 181 yX5_dayLearnt, Cond.methodLink RL 51 yX7_knows, Cond.instanceMethod yX7_knows, Cond.selects RX7 yX7_knows yX7_knows, Cond.code yX7_knows cX7_knows 4 (some .int), Cond.methodLink RL 52 yX6_reading, Cond.instanceMethod yX6_reading, Cond.selects RX6 yX6_reading yX6_reading, Cond.code yX6_reading cX6_reading 3 (some .int)]
def wsL_law_r24 : List Cond := [Cond.fieldLink RX6 184 "DimBooks$Log" "days" "[I", Cond.fieldLink RX6 187 "DimBooks$Log" "pages" "[I", Cond.fieldLink RX6 189 "DimBooks$Log" "readers" "[I", Cond.methodLink RL 55 yX7_reading, Cond.instanceMethod yX7_reading, Cond.selects RX7 yX7_reading yX7_reading, Cond.code yX7_reading cX7_reading 3 (some .int), Cond.constantLong RX7 181 (2), Cond.methodLink RL 56 yX6_read, Cond.instanceMethod yX6_read, Cond.selects RX6 yX6_read yX6_read, Cond.code yX6_read cX6_read 3 (some .int), Cond.constant RX6 194 (-1000000003), Cond.methodLink RX6 191 yX5_isGone, Cond.instanceMethod yX5_isGone, Cond.selects RX5 yX5_isGone yX5_isGone, Cond.code yX5_isGone cX5_isGone 2 (some .boolean), Cond.methodLink RX6 195 yX5_readPage, Cond.instanceMethod yX5_readPage, Cond.selects RX5 yX5_readPage yX5_readPage, Cond.code yX5_readPage cX5_readPage 4 none, Cond.fieldLink RX5 106 "DimBooks$Library" "kinds" "[I", Cond.methodLink RX5 102 yX2_add, Cond.instanceMethod yX2_add]
def wsL_law_r25 : List Cond := [Cond.selects RX2 yX2_add yX2_add, Cond.code yX2_add cX2_add 4 none, Cond.methodLink RX5 109 yX5_learn, Cond.instanceMethod yX5_learn, Cond.selects RX5 yX5_learn yX5_learn, Cond.code yX5_learn cX5_learn 4 none, Cond.methodLink RL 59 yX7_read, Cond.instanceMethod yX7_read, Cond.selects RX7 yX7_read yX7_read, Cond.code yX7_read cX7_read 3 (some .int), Cond.constant RX7 187 (-1000000003), Cond.methodLink RX7 188 yX7_readPage, Cond.instanceMethod yX7_readPage, Cond.selects RX7 yX7_readPage yX7_readPage, Cond.code yX7_readPage cX7_readPage 5 none, Cond.methodLink RX7 183 yX7_know, Cond.instanceMethod yX7_know, Cond.selects RX7 yX7_know yX7_know, Cond.code yX7_know cX7_know 5 none, Cond.methodLink RL 60 yX6_copy, Cond.instanceMethod yX6_copy, Cond.selects RX6 yX6_copy yX6_copy, Cond.code yX6_copy cX6_copy 3 (some .int), Cond.methodLink RX6 199 yX5_isFull]
def wsL_law_r26 : List Cond := [Cond.instanceMethod yX5_isFull, Cond.selects RX5 yX5_isFull yX5_isFull, Cond.code yX5_isFull cX5_isFull 1 (some .boolean), Cond.methodLink RX6 203 yX5_addPage, Cond.instanceMethod yX5_addPage, Cond.selects RX5 yX5_addPage yX5_addPage, Cond.code yX5_addPage cX5_addPage 5 (some .int), Cond.constant RX5 119 (-1000000004), Cond.fieldLink RX5 124 "DimBooks$Library" "error" "I", Cond.methodLink RX5 115 yX5_isFull, Cond.methodLink RX5 120 yX5_draw, Cond.instanceMethod yX5_draw, Cond.selects RX5 yX5_draw yX5_draw, Cond.code yX5_draw cX5_draw 2 (some .int), Cond.constant RX5 127 (1103515245), Cond.constant RX5 130 (2147483647), Cond.constant RX5 131 (65536), Cond.methodLink RL 63 yX7_copy, Cond.instanceMethod yX7_copy, Cond.selects RX7 yX7_copy yX7_copy, Cond.code yX7_copy cX7_copy 3 (some .int), Cond.methodLink RX7 202 yX7_make, Cond.instanceMethod yX7_make, Cond.selects RX7 yX7_make yX7_make]
def wsL_law_r27 : List Cond := [Cond.code yX7_make cX7_make 5 (some .int), Cond.methodLink RX7 199 yX7_draw, Cond.instanceMethod yX7_draw, Cond.selects RX7 yX7_draw yX7_draw, Cond.code yX7_draw cX7_draw 3 (some .int), Cond.constantLong RX7 192 (1103515245), Cond.constantLong RX7 194 (12345), Cond.constantLong RX7 196 (2147483648), Cond.constant RX7 198 (65536), Cond.methodLink RL 64 yX6_write, Cond.instanceMethod yX6_write, Cond.selects RX6 yX6_write yX6_write, Cond.code yX6_write cX6_write 3 (some .int), Cond.methodLink RL 67 yX7_write, Cond.instanceMethod yX7_write, Cond.selects RX7 yX7_write yX7_write, Cond.code yX7_write cX7_write 4 (some .int), Cond.methodLink RL 68 yX6_teach, Cond.instanceMethod yX6_teach, Cond.selects RX6 yX6_teach yX6_teach, Cond.code yX6_teach cX6_teach 5 (some .int), Cond.methodLink RX6 207 yX5_learn, Cond.methodLink RL 71 yX7_teach, Cond.instanceMethod yX7_teach]
def wsL_law_r28 : List Cond := [Cond.selects RX7 yX7_teach yX7_teach, Cond.code yX7_teach cX7_teach 5 (some .int), Cond.methodLink RL 72 yX6_dusk, Cond.instanceMethod yX6_dusk, Cond.selects RX6 yX6_dusk yX6_dusk, Cond.code yX6_dusk cX6_dusk 2 (some .int), Cond.methodLink RX6 211 yX5_passDusks, Cond.instanceMethod yX5_passDusks, Cond.selects RX5 yX5_passDusks yX5_passDusks, Cond.code yX5_passDusks cX5_passDusks 2 none, Cond.methodLink RL 75 yX7_dusk, Cond.instanceMethod yX7_dusk, Cond.selects RX7 yX7_dusk yX7_dusk, Cond.code yX7_dusk cX7_dusk 3 (some .int), Cond.constantLong RX7 206 (200), Cond.methodLink RX7 208 yX7_darken, Cond.instanceMethod yX7_darken, Cond.selects RX7 yX7_darken yX7_darken, Cond.code yX7_darken cX7_darken 5 none, Cond.methodLink RL 76 yX6_run, Cond.instanceMethod yX6_run, Cond.selects RX6 yX6_run yX6_run, Cond.code yX6_run cX6_run 2 (some .int), Cond.methodLink RX6 214 yX5_liveByDraws]
def wsL_law_r29 : List Cond := [Cond.instanceMethod yX5_liveByDraws, Cond.selects RX5 yX5_liveByDraws yX5_liveByDraws, Cond.code yX5_liveByDraws cX5_liveByDraws 6 none, Cond.methodLink RX5 140 yX5_hasPage, Cond.methodLink RX5 144 yX5_isGone, Cond.methodLink RX5 147 yX5_readPage, Cond.methodLink RX5 151 yX5_passDusks, Cond.methodLink RX6 217 yX5_countGone, Cond.instanceMethod yX5_countGone, Cond.selects RX5 yX5_countGone yX5_countGone, Cond.code yX5_countGone cX5_countGone 3 (some .int), Cond.methodLink RL 79 yX7_run, Cond.instanceMethod yX7_run, Cond.selects RX7 yX7_run yX7_run, Cond.code yX7_run cX7_run 4 (some .int), Cond.constantLong RX7 212 (100), Cond.methodLink RX7 214 yX7_runDays, Cond.instanceMethod yX7_runDays, Cond.selects RX7 yX7_runDays yX7_runDays, Cond.code yX7_runDays cX7_runDays 6 none, Cond.methodLink RL 80 yX6_where, Cond.instanceMethod yX6_where, Cond.selects RX6 yX6_where yX6_where, Cond.code yX6_where cX6_where 2 (some .int)]
def wsL_law_r30 : List Cond := [Cond.methodLink RX6 221 yX5_firstPage, Cond.instanceMethod yX5_firstPage, Cond.selects RX5 yX5_firstPage yX5_firstPage, Cond.code yX5_firstPage cX5_firstPage 3 (some .int), Cond.methodLink RL 83 yX7_where, Cond.instanceMethod yX7_where, Cond.selects RX7 yX7_where yX7_where, Cond.code yX7_where cX7_where 3 (some .int), Cond.methodLink RL 84 yX6_request, Cond.instanceMethod yX6_request, Cond.selects RX6 yX6_request yX6_request, Cond.code yX6_request cX6_request 4 (some .int), Cond.methodLink RX6 224 yX3_add, Cond.instanceMethod yX3_add, Cond.selects RX3 yX3_add yX3_add, Cond.code yX3_add cX3_add 4 (some .int), Cond.constant RX3 25 (-1000000004), Cond.methodLink RL 87 yX7_request, Cond.instanceMethod yX7_request, Cond.selects RX7 yX7_request yX7_request, Cond.code yX7_request cX7_request 4 (some .int), Cond.constantLong RX7 218 (99), Cond.methodLink RL 88 yX6_forget, Cond.instanceMethod yX6_forget]
def wsL_law_r31 : List Cond := [Cond.selects RX6 yX6_forget yX6_forget, Cond.code yX6_forget cX6_forget 2 (some .int), Cond.methodLink RL 91 yX7_forget, Cond.instanceMethod yX7_forget, Cond.selects RX7 yX7_forget yX7_forget, Cond.code yX7_forget cX7_forget 2 (some .int), Cond.methodLink RL 92 yX6_grant, Cond.instanceMethod yX6_grant, Cond.selects RX6 yX6_grant yX6_grant, Cond.code yX6_grant cX6_grant 2 (some .int), Cond.methodLink RX6 227 yX6_isSetOf, Cond.static yX6_isSetOf, Cond.code yX6_isSetOf cX6_isSetOf 2 (some .boolean), Cond.methodLink RX6 230 yX3_fulfil, Cond.instanceMethod yX3_fulfil, Cond.selects RX3 yX3_fulfil yX3_fulfil, Cond.code yX3_fulfil cX3_fulfil 6 (some .int), Cond.static yX6_has, Cond.code yX6_has cX6_has 2 (some .boolean), Cond.methodLink RX3 30 yX5_darkestPage, Cond.instanceMethod yX5_darkestPage, Cond.selects RX5 yX5_darkestPage yX5_darkestPage, Cond.code yX5_darkestPage cX5_darkestPage 4 (some .int), Cond.methodLink RX3 36 yX5_readPage]
def wsL_law_r32 : List Cond := [Cond.methodLink RL 95 yX7_grant, Cond.instanceMethod yX7_grant, Cond.selects RX7 yX7_grant yX7_grant, Cond.code yX7_grant cX7_grant 2 (some .int), Cond.methodLink RX7 226 yX7_grantAll, Cond.instanceMethod yX7_grantAll, Cond.selects RX7 yX7_grantAll yX7_grantAll, Cond.code yX7_grantAll cX7_grantAll 6 (some .int), Cond.methodLink RX7 220 yX7_has, Cond.static yX7_has, Cond.code yX7_has cX7_has 2 (some .boolean), Cond.methodLink RX7 223 yX7_palest, Cond.instanceMethod yX7_palest, Cond.selects RX7 yX7_palest yX7_palest, Cond.code yX7_palest cX7_palest 5 (some .int), Cond.methodLink RL 96 yX6_best, Cond.instanceMethod yX6_best, Cond.selects RX6 yX6_best yX6_best, Cond.code yX6_best cX6_best 4 (some .int), Cond.fieldLink RX6 240 "DimBooks$Choice" "set" "I", Cond.fieldLink RX6 243 "DimBooks$Choice" "sum" "I", Cond.fieldLink RX6 246 "DimBooks$Choice" "lost" "I", Cond.methodLink RX6 234 yX0_clear, Cond.instanceMethod yX0_clear]
def wsL_law_r33 : List Cond := [Cond.selects RX0 yX0_clear yX0_clear, Cond.code yX0_clear cX0_clear 1 none, Cond.methodLink RX6 237 yX6_chooseFor, Cond.instanceMethod yX6_chooseFor, Cond.selects RX6 yX6_chooseFor yX6_chooseFor, Cond.code yX6_chooseFor cX6_chooseFor 10 none, Cond.methodLink RX6 249 yX3_forLine, Cond.instanceMethod yX3_forLine, Cond.selects RX3 yX3_forLine yX3_forLine, Cond.code yX3_forLine cX3_forLine 4 (some .int), Cond.methodLink RX6 252 yX5_copyBooks, Cond.instanceMethod yX5_copyBooks, Cond.selects RX5 yX5_copyBooks yX5_copyBooks, Cond.code yX5_copyBooks cX5_copyBooks 2 none, Cond.methodLink RX5 75 arraycopyName, Cond.methodLink RX6 256 yJ6_bitCount_0f7a4, Cond.methodLink RX6 261 yX0_addLine, Cond.instanceMethod yX0_addLine, Cond.selects RX0 yX0_addLine yX0_addLine, Cond.code yX0_addLine cX0_addLine 5 none, Cond.methodLink RL 99 yX7_best, Cond.instanceMethod yX7_best, Cond.selects RX7 yX7_best yX7_best, Cond.code yX7_best cX7_best 8 (some .int)]
def wsL_law_r34 : List Cond := [Cond.fieldLink RX7 232 "DimBooksModel" "lostBy" "I", Cond.methodLink RX7 235 yX7_sumBy, Cond.instanceMethod yX7_sumBy, Cond.selects RX7 yX7_sumBy yX7_sumBy, Cond.code yX7_sumBy cX7_sumBy 6 (some .int), Cond.methodLink RX7 229 yX7_copyRow, Cond.instanceMethod yX7_copyRow, Cond.selects RX7 yX7_copyRow yX7_copyRow, Cond.code yX7_copyRow cX7_copyRow 4 none, Cond.methodLink RL 100 yX6_toKnow, Cond.instanceMethod yX6_toKnow, Cond.selects RX6 yX6_toKnow yX6_toKnow, Cond.code yX6_toKnow cX6_toKnow 6 (some .int), Cond.methodLink RX6 265 yX6_has, Cond.methodLink RX6 268 yX6_fewestToKnow, Cond.instanceMethod yX6_fewestToKnow, Cond.selects RX6 yX6_fewestToKnow yX6_fewestToKnow, Cond.code yX6_fewestToKnow cX6_fewestToKnow 7 (some .int), Cond.methodLink RX6 271 yX5_trueKnowers, Cond.instanceMethod yX5_trueKnowers, Cond.selects RX5 yX5_trueKnowers yX5_trueKnowers, Cond.code yX5_trueKnowers cX5_trueKnowers 2 (some .int), Cond.methodLink RX6 274 yX5_truePages, Cond.methodLink RX6 277 yX1_readersOfKind]
def wsL_law_r35 : List Cond := [Cond.instanceMethod yX1_readersOfKind, Cond.selects RX1 yX1_readersOfKind yX1_readersOfKind, Cond.code yX1_readersOfKind cX1_readersOfKind 4 (some .int), Cond.methodLink RX6 280 yX6_pagesAllow, Cond.instanceMethod yX6_pagesAllow, Cond.selects RX6 yX6_pagesAllow yX6_pagesAllow, Cond.code yX6_pagesAllow cX6_pagesAllow 4 (some .boolean), Cond.methodLink RX6 283 yX5_trueReadingsLeft, Cond.instanceMethod yX5_trueReadingsLeft, Cond.selects RX5 yX5_trueReadingsLeft yX5_trueReadingsLeft, Cond.code yX5_trueReadingsLeft cX5_trueReadingsLeft 4 (some .int), Cond.methodLink RL 103 yX7_toKnow, Cond.instanceMethod yX7_toKnow, Cond.selects RX7 yX7_toKnow yX7_toKnow, Cond.code yX7_toKnow cX7_toKnow 6 (some .int), Cond.methodLink RX7 245 yX7_fewest, Cond.instanceMethod yX7_fewest, Cond.selects RX7 yX7_fewest yX7_fewest, Cond.code yX7_fewest cX7_fewest 11 (some .int), Cond.methodLink RX7 238 yX7_isTrue, Cond.instanceMethod yX7_isTrue, Cond.selects RX7 yX7_isTrue yX7_isTrue, Cond.code yX7_isTrue cX7_isTrue 3 (some .boolean), Cond.methodLink RX7 241 yX7_lesser]
def wsL_law_r36 : List Cond := [Cond.static yX7_lesser, Cond.code yX7_lesser cX7_lesser 3 (some .int), Cond.methodLink RL 104 yX6_life, Cond.instanceMethod yX6_life, Cond.selects RX6 yX6_life yX6_life, Cond.code yX6_life cX6_life 7 (some .int), Cond.constant RX6 292 (1000000000), Cond.methodLink RX6 286 yJ7_fill_53178, Cond.methodLink RL 107 yX7_life, Cond.instanceMethod yX7_life, Cond.selects RX7 yX7_life yX7_life, Cond.code yX7_life cX7_life 7 (some .int), Cond.constantLong RX7 248 (9), Cond.constant RX7 250 (1000000000), Cond.methodLink RL 108 yX6_right, Cond.instanceMethod yX6_right, Cond.selects RX6 yX6_right yX6_right, Cond.code yX6_right cX6_right 5 (some .int), Cond.constant RX6 293 (1000000), Cond.methodLink RL 111 yX7_right, Cond.instanceMethod yX7_right, Cond.selects RX7 yX7_right yX7_right, Cond.code yX7_right cX7_right 5 (some .int), Cond.constantLong RX7 251 (40)]
def wsL_law_r37 : List Cond := [Cond.constant RX7 253 (1000000), Cond.methodLink RL 112 yX6_claim, Cond.instanceMethod yX6_claim, Cond.selects RX6 yX6_claim yX6_claim, Cond.code yX6_claim cX6_claim 4 (some .int), Cond.methodLink RX6 294 yX5_canBeCopied, Cond.instanceMethod yX5_canBeCopied, Cond.selects RX5 yX5_canBeCopied yX5_canBeCopied, Cond.code yX5_canBeCopied cX5_canBeCopied 7 (some .boolean), Cond.fieldLink RX5 183 "DimBooks$Log" "pages" "[I", Cond.fieldLink RX5 185 "DimBooks$Log" "days" "[I", Cond.fieldLink RX5 188 "DimBooks$Log" "readers" "[I", Cond.methodLink RL 115 yX7_claim, Cond.instanceMethod yX7_claim, Cond.selects RX7 yX7_claim yX7_claim, Cond.code yX7_claim cX7_claim 9 (some .int), Cond.constantLong RX7 254 (9999), Cond.methodLink RL 116 yX6_whence, Cond.instanceMethod yX6_whence, Cond.selects RX6 yX6_whence yX6_whence, Cond.code yX6_whence cX6_whence 3 (some .int), Cond.methodLink RX6 298 yX5_firstWriter, Cond.instanceMethod yX5_firstWriter, Cond.selects RX5 yX5_firstWriter yX5_firstWriter]
def wsL_law_r38 : List Cond := [Cond.code yX5_firstWriter cX5_firstWriter 4 (some .int), Cond.methodLink RL 119 yX7_whence, Cond.instanceMethod yX7_whence, Cond.selects RX7 yX7_whence yX7_whence, Cond.code yX7_whence cX7_whence 4 (some .int), Cond.methodLink RL 120 yX6_span, Cond.instanceMethod yX6_span, Cond.selects RX6 yX6_span yX6_span, Cond.code yX6_span cX6_span 9 (some .int), Cond.fieldLink RX6 301 "DimBooks$State" "seed" "I", Cond.methodLink RX6 304 Lib.Math.min.name, Cond.methodLink RX6 309 Lib.Math.max.name, Cond.static Lib.Math.max.name, Cond.code Lib.Math.max.name Lib.Math.max.code 2 (some .int), Cond.methodLink RL 123 yX7_span, Cond.instanceMethod yX7_span, Cond.selects RX7 yX7_span yX7_span, Cond.code yX7_span cX7_span 9 (some .int), Cond.constantLong RX7 256 (20), Cond.methodLink RL 124 yX6_note, Cond.instanceMethod yX6_note, Cond.selects RX6 yX6_note yX6_note, Cond.code yX6_note cX6_note 2 (some .int), Cond.methodLink RL 127 yX7_note]
def wsL_law_r39 : List Cond := [Cond.instanceMethod yX7_note, Cond.selects RX7 yX7_note yX7_note, Cond.code yX7_note cX7_note 2 (some .int), Cond.constantLong RX7 258 (16), Cond.methodLink RL 128 yX6_tear, Cond.instanceMethod yX6_tear, Cond.selects RX6 yX6_tear yX6_tear, Cond.code yX6_tear cX6_tear 2 (some .int), Cond.methodLink RL 131 yX7_tear, Cond.instanceMethod yX7_tear, Cond.selects RX7 yX7_tear yX7_tear, Cond.code yX7_tear cX7_tear 2 (some .int), Cond.methodLink RL 132 yX6_judge, Cond.instanceMethod yX6_judge, Cond.selects RX6 yX6_judge yX6_judge, Cond.code yX6_judge cX6_judge 2 (some .int), Cond.methodLink RL 135 yX7_judge, Cond.instanceMethod yX7_judge, Cond.selects RX7 yX7_judge yX7_judge, Cond.code yX7_judge cX7_judge 2 (some .int), Cond.methodLink RL 136 yX6_seed, Cond.instanceMethod yX6_seed, Cond.selects RX6 yX6_seed yX6_seed, Cond.code yX6_seed cX6_seed 3 (some .int)]
def wsL_law_r40 : List Cond := [Cond.methodLink RL 139 yX7_seed, Cond.instanceMethod yX7_seed, Cond.selects RX7 yX7_seed yX7_seed, Cond.code yX7_seed cX7_seed 3 (some .int), Cond.methodLink RL 140 yX6_keep, Cond.instanceMethod yX6_keep, Cond.selects RX6 yX6_keep yX6_keep, Cond.code yX6_keep cX6_keep 2 (some .int), Cond.methodLink RX6 312 yX5_copyFrom, Cond.instanceMethod yX5_copyFrom, Cond.selects RX5 yX5_copyFrom yX5_copyFrom, Cond.code yX5_copyFrom cX5_copyFrom 2 none, Cond.methodLink RX5 71 yX5_copyBooks, Cond.methodLink RX5 81 yX2_copyFrom, Cond.instanceMethod yX2_copyFrom, Cond.selects RX2 yX2_copyFrom yX2_copyFrom, Cond.code yX2_copyFrom cX2_copyFrom 2 none, Cond.methodLink RX2 25 arraycopyName, Cond.methodLink RL 143 yX7_keep, Cond.instanceMethod yX7_keep, Cond.selects RX7 yX7_keep yX7_keep, Cond.code yX7_keep cX7_keep 2 (some .int), Cond.methodLink RL 144 yX6_goBack, Cond.instanceMethod yX6_goBack]
def wsL_law_r41 : List Cond := [Cond.selects RX6 yX6_goBack yX6_goBack, Cond.code yX6_goBack cX6_goBack 2 (some .int), Cond.methodLink RL 147 yX7_goBack, Cond.instanceMethod yX7_goBack, Cond.selects RX7 yX7_goBack yX7_goBack, Cond.code yX7_goBack cX7_goBack 2 (some .int)]
def wsL_law : List Cond := (wsL_law_r1 ++ (wsL_law_r2 ++ (wsL_law_r3 ++ (wsL_law_r4 ++ (wsL_law_r5 ++ (wsL_law_r6 ++ (wsL_law_r7 ++ (wsL_law_r8 ++ (wsL_law_r9 ++ (wsL_law_r10 ++ (wsL_law_r11 ++ (wsL_law_r12 ++ (wsL_law_r13 ++ (wsL_law_r14 ++ (wsL_law_r15 ++ (wsL_law_r16 ++ (wsL_law_r17 ++ (wsL_law_r18 ++ (wsL_law_r19 ++ (wsL_law_r20 ++ (wsL_law_r21 ++ (wsL_law_r22 ++ (wsL_law_r23 ++ (wsL_law_r24 ++ (wsL_law_r25 ++ (wsL_law_r26 ++ (wsL_law_r27 ++ (wsL_law_r28 ++ (wsL_law_r29 ++ (wsL_law_r30 ++ (wsL_law_r31 ++ (wsL_law_r32 ++ (wsL_law_r33 ++ (wsL_law_r34 ++ (wsL_law_r35 ++ (wsL_law_r36 ++ (wsL_law_r37 ++ (wsL_law_r38 ++ (wsL_law_r39 ++ (wsL_law_r40 ++ wsL_law_r41)))))))))))))))))))))))))))))))))))))))) ++ wsX60 ++ wsX70 ++ wsX40 ++ wsX10 ++ wsX50 ++ wsX30 ++ wsX00 ++ wsX20 ++ ([] : List Cond)
set_option maxRecDepth 20000 in
theorem wsL_all : wsL_law.all goodWord = true := by decide +kernel
theorem wsL_self : GoodIn wsL_law wsL_law := fun w hw => ⟨hw, good_of_word (List.all_eq_true.mp wsL_all w hw)⟩
theorem inlX0 : ∀ w ∈ wsX00, w ∈ wsL_law := fun _ h => List.mem_append_left _ (List.mem_append_left _ (List.mem_append_right _ h))
theorem inlX1 : ∀ w ∈ wsX10, w ∈ wsL_law := fun _ h => List.mem_append_left _ (List.mem_append_left _ (List.mem_append_left _ (List.mem_append_left _ (List.mem_append_left _ (List.mem_append_right _ h)))))
theorem inlX2 : ∀ w ∈ wsX20, w ∈ wsL_law := fun _ h => List.mem_append_left _ (List.mem_append_right _ h)
theorem inlX3 : ∀ w ∈ wsX30, w ∈ wsL_law := fun _ h => List.mem_append_left _ (List.mem_append_left _ (List.mem_append_left _ (List.mem_append_right _ h)))
theorem inlX4 : ∀ w ∈ wsX40, w ∈ wsL_law := fun _ h => List.mem_append_left _ (List.mem_append_left _ (List.mem_append_left _ (List.mem_append_left _ (List.mem_append_left _ (List.mem_append_left _ (List.mem_append_right _ h))))))
theorem inlX5 : ∀ w ∈ wsX50, w ∈ wsL_law := fun _ h => List.mem_append_left _ (List.mem_append_left _ (List.mem_append_left _ (List.mem_append_left _ (List.mem_append_right _ h))))
theorem inlX6 : ∀ w ∈ wsX60, w ∈ wsL_law := fun _ h => List.mem_append_left _ (List.mem_append_left _ (List.mem_append_left _ (List.mem_append_left _ (List.mem_append_left _ (List.mem_append_left _ (List.mem_append_left _ (List.mem_append_left _ (List.mem_append_right _ h))))))))
theorem inlX7 : ∀ w ∈ wsX70, w ∈ wsL_law := fun _ h => List.mem_append_left _ (List.mem_append_left _ (List.mem_append_left _ (List.mem_append_left _ (List.mem_append_left _ (List.mem_append_left _ (List.mem_append_left _ (List.mem_append_right _ h)))))))
abbrev vwCl : List vw_C := [(RX0, TX0, 3), (RX1, TX1, 8), (RX2, TX2, 4), (RX3, TX3, 4), (RX4, TX4, 5), (RX5, TX5, 12), (RX6, TX6, 12), (RX7, TX7, 25)]
end
section
/-! the abstract machine: cells by number, numbers of a cell by place; a world out of a layout -/
abbrev rf_Mem : Type := Nat → Nat → Int32
def rf_row (M : rf_Mem) (k : Nat) (f : Nat → Int32) : rf_Mem := fun a => if a = k then f else M a
def rf_set (M : rf_Mem) (k j : Nat) (v : Int32) : rf_Mem := rf_row M k (upd (M k) j v)
abbrev rf_Cell : Type := (Nat × List (Option Nat)) ⊕ ((Nat × Nat) ⊕ (List Nat))
abbrev rf_G : Type := ClassId × ClassId × ClassId
def rf_tys (g : rf_G) : List (ClassId × FieldType) := [(g.1, .int), (g.2.1, .boolean), (g.2.2, .object RX5)]
def rf_cv (ad : Nat → Nat) (v : Value) : Value := match v with
  | .ref k => .ref (ad k)
  | .int x => .int x
  | .long x => .long x
  | v => v
theorem rf_cv_cat (ad : Nat → Nat) (v : Value) : (rf_cv ad v).category = v.category := by cases v <;> rfl
def rf_fs (ad : Nat → Nat) (f : Nat → Int32) : Nat → List (Option Nat) → List Value
  | _, [] => []
  | j, none :: l => .int (f j) :: rf_fs ad f (j + 1) l
  | j, some c :: l => .ref (ad c) :: rf_fs ad f (j + 1) l
def rf_w (g : rf_G) (ad : Nat → Nat) (M : rf_Mem) (k : Nat) (c : rf_Cell) : Nat × va_E := (ad k, match c with
  | .inl o => .inr (o.1, rf_fs ad (M k) 0 o.2)
  | .inr (.inl a) => .inl (if a.2 = 0 then g.1 else g.2.1, a.1, .inl (M k))
  | .inr (.inr cs) => .inl (g.2.2, cs.length, .inr (.inr (.inr (.inr (fun j => (cs[j]?).map ad))))))
def rf_W (g : rf_G) (ad : Nat → Nat) (M : rf_Mem) : Nat → List rf_Cell → va_W
  | _, [] => []
  | k, c :: l => rf_w g ad M k c :: rf_W g ad M (k + 1) l
theorem rf_W_get (g : rf_G) (ad : Nat → Nat) (M : rf_Mem) : ∀ (Lay : List rf_Cell) (k0 k : Nat), (rf_W g ad M k0 Lay)[k]? = (Lay[k]?).map (rf_w g ad M (k0 + k)) := by
  intro Lay
  induction Lay with
  | nil => intro k0 k; simp [rf_W]
  | cons c l ih =>
    intro k0 k
    cases k with
    | zero => simp [rf_W]
    | succ k => simp [rf_W, ih (k0 + 1) k, Nat.add_assoc, Nat.add_comm 1 k]
theorem rf_fs_get (ad : Nat → Nat) (f : Nat → Int32) : ∀ (l : List (Option Nat)) (j0 j : Nat), (rf_fs ad f j0 l)[j]? = (l[j]?).map (fun o => match o with | none => Value.int (f (j0 + j)) | some c => Value.ref (ad c)) := by
  intro l
  induction l with
  | nil => intro j0 j; simp [rf_fs]
  | cons o l ih =>
    intro j0 j
    cases o <;> cases j with
    | zero => simp [rf_fs]
    | succ j => simp [rf_fs, ih (j0 + 1) j, Nat.add_assoc, Nat.add_comm 1 j]
theorem rf_fs_cong (ad : Nat → Nat) (f f' : Nat → Int32) : ∀ (l : List (Option Nat)) (j0 : Nat), (∀ j, j0 ≤ j → f j = f' j) → rf_fs ad f j0 l = rf_fs ad f' j0 l := by
  intro l
  induction l with
  | nil => intro j0 _; rfl
  | cons o l ih =>
    intro j0 h
    cases o with
    | none => simp only [rf_fs]; rw [h j0 (Nat.le_refl _), ih (j0 + 1) (fun j hj => h j (by omega))]
    | some c => simp only [rf_fs]; rw [ih (j0 + 1) (fun j hj => h j (by omega))]
theorem rf_fs_set (ad : Nat → Nat) (f : Nat → Int32) (v : Int32) : ∀ (l : List (Option Nat)) (j0 j : Nat), l[j]? = some none → (rf_fs ad f j0 l).set j (.int v) = rf_fs ad (upd f (j0 + j) v) j0 l := by
  intro l
  induction l with
  | nil => intro j0 j h; simp at h
  | cons o l ih =>
    intro j0 j h
    cases j with
    | zero =>
      simp at h
      subst h
      simp only [rf_fs, List.set_cons_zero]
      rw [rf_fs_cong ad f (upd f (j0 + 0) v) l (j0 + 1) (fun j hj => by simp [upd]; omega)]
      simp [upd]
    | succ j =>
      have e := ih (j0 + 1) j (by simpa using h)
      have e2 : j0 + 1 + j = j0 + (j + 1) := by omega
      rw [e2] at e
      cases o with
      | none => simp only [rf_fs, List.set_cons_succ]; rw [e]; simp [upd]
      | some c => simp only [rf_fs, List.set_cons_succ]; rw [e]
theorem rf_w_cong {g : rf_G} {ad : Nat → Nat} {M M' : rf_Mem} {k : Nat} {c : rf_Cell} (h : M k = M' k) : rf_w g ad M k c = rf_w g ad M' k c := by
  unfold rf_w
  rw [h]
theorem rf_W_cong {g : rf_G} {ad : Nat → Nat} {M M' : rf_Mem} : ∀ (l : List rf_Cell) (k0 : Nat), (∀ k, k0 ≤ k → M k = M' k) → rf_W g ad M k0 l = rf_W g ad M' k0 l := by
  intro l
  induction l with
  | nil => intro k0 _; rfl
  | cons c l ih =>
    intro k0 h
    simp only [rf_W]
    rw [rf_w_cong (h k0 (Nat.le_refl _)), ih (k0 + 1) (fun k hk => h k (by omega))]
theorem rf_row_same (M : rf_Mem) (k : Nat) (f : Nat → Int32) : rf_row M k f k = f := by simp [rf_row]
theorem rf_row_ne (M : rf_Mem) {k a : Nat} (f : Nat → Int32) (h : a ≠ k) : rf_row M k f a = M a := by simp [rf_row, h]
theorem rf_W_set (g : rf_G) (ad : Nat → Nat) (M : rf_Mem) (f : Nat → Int32) (c : rf_Cell) : ∀ (l : List rf_Cell) (k0 k : Nat), l[k]? = some c → (rf_W g ad M k0 l).set k (rf_w g ad (rf_row M (k0 + k) f) (k0 + k) c) = rf_W g ad (rf_row M (k0 + k) f) k0 l := by
  intro l
  induction l with
  | nil => intro k0 k h; simp at h
  | cons d l ih =>
    intro k0 k h
    cases k with
    | zero =>
      simp at h
      subst h
      simp only [rf_W, List.set_cons_zero, Nat.add_zero]
      rw [rf_W_cong (M := M) (M' := rf_row M k0 f) l (k0 + 1) (fun k hk => (rf_row_ne M f (by omega)).symm)]
    | succ k =>
      have e := ih (k0 + 1) k (by simpa using h)
      have e2 : k0 + 1 + k = k0 + (k + 1) := by omega
      rw [e2] at e
      simp only [rf_W, List.set_cons_succ]
      rw [e, rf_w_cong (M := M) (M' := rf_row M (k0 + (k + 1)) f) (rf_row_ne M f (by omega)).symm]
theorem rf_W0 (g : rf_G) (ad : Nat → Nat) (M : rf_Mem) {Lay : List rf_Cell} {q : Nat} {c : rf_Cell} (h : Lay[q]? = some c) : (rf_W g ad M 0 Lay)[q]? = some (rf_w g ad M q c) := by
  rw [rf_W_get, h, Nat.zero_add]
  rfl
theorem rf_S0 (g : rf_G) (ad : Nat → Nat) (M : rf_Mem) (f : Nat → Int32) {Lay : List rf_Cell} {q : Nat} {c : rf_Cell} (h : Lay[q]? = some c) : (rf_W g ad M 0 Lay).set q (rf_w g ad (rf_row M q f) q c) = rf_W g ad (rf_row M q f) 0 Lay := by
  have e := rf_W_set g ad M f c Lay 0 q h
  rw [Nat.zero_add] at e
  exact e
theorem rf_D {A : Nat → Prop} {g : rf_G} {ad : Nat → Nat} {M M' : rf_Mem} {Lay : List rf_Cell} (h : va_D A (rf_W g ad M 0 Lay)) : va_D A (rf_W g ad M' 0 Lay) := by
  have key : ∀ (k : Nat) (q : Nat × va_E), (rf_W g ad M' 0 Lay)[k]? = some q → ∃ q', (rf_W g ad M 0 Lay)[k]? = some q' ∧ q'.1 = q.1 := by
    intro k q hq
    rw [rf_W_get] at hq
    rw [rf_W_get]
    cases hc : Lay[k]? with
    | none => rw [hc] at hq; cases hq
    | some c =>
      rw [hc] at hq
      cases hq
      exact ⟨_, rfl, rfl⟩
  refine ⟨fun i j a b ha hb he => ?_, fun k q hk => ?_⟩
  · obtain ⟨a', h1, h2⟩ := key i a ha
    obtain ⟨b', h3, h4⟩ := key j b hb
    exact h.1 i j a' b' h1 h3 (by rw [h2, h4]; exact he)
  · obtain ⟨q', h1, h2⟩ := key k q hk
    rw [← h2]
    exact h.2 k q' h1
theorem rf_A {g : rf_G} {ad : Nat → Nat} {M M' : rf_Mem} {Lay : List rf_Cell} {sz sz' : Nat} (hs : sz' ≤ sz) {q : Nat} (h : va_A (rf_W g ad M 0 Lay) sz q) : va_A (rf_W g ad M' 0 Lay) sz' q := by
  rcases h with ⟨k, e, hk⟩ | h
  · rw [rf_W_get] at hk
    cases hc : Lay[k]? with
    | none => rw [hc] at hk; cases hk
    | some c =>
      rw [hc] at hk
      refine Or.inl ⟨k, (rf_w g ad M' (0 + k) c).2, ?_⟩
      rw [rf_W_get, hc]
      have e1 : ad (0 + k) = q := congrArg (fun z => (z : Nat × va_E).1) (Option.some.inj hk)
      show some (rf_w g ad M' (0 + k) c) = some (q, (rf_w g ad M' (0 + k) c).2)
      rw [← e1]
      rfl
  · exact Or.inr (Nat.le_trans hs h)
/-! locals -/
def rf_lv (ad : Nat → Nat) : Nat → List (Option Value) → List (Nat × Value)
  | _, [] => []
  | i, none :: L => rf_lv ad (i + 1) L
  | i, some v :: L => (i, rf_cv ad v) :: rf_lv ad (i + 1) L
theorem rf_lv_in (ad : Nat → Nat) : ∀ (L : List (Option Value)) (i k : Nat) (v : Value), L[k]? = some (some v) → (i + k, rf_cv ad v) ∈ rf_lv ad i L := by
  intro L
  induction L with
  | nil => intro i k v h; simp at h
  | cons o L ih =>
    intro i k v h
    cases k with
    | zero =>
      simp at h
      subst h
      simp [rf_lv]
    | succ k =>
      have e := ih (i + 1) k v (by simpa using h)
      have e2 : i + 1 + k = i + (k + 1) := by omega
      rw [e2] at e
      cases o with
      | none => exact e
      | some w => exact List.mem_cons_of_mem _ e
theorem rf_lv_of (ad : Nat → Nat) : ∀ (L : List (Option Value)) (i : Nat) (q : Nat × Value), q ∈ rf_lv ad i L → ∃ k v, q = (i + k, rf_cv ad v) ∧ L[k]? = some (some v) := by
  intro L
  induction L with
  | nil => intro i q h; cases h
  | cons o L ih =>
    intro i q h
    cases o with
    | none =>
      obtain ⟨k, v, h1, h2⟩ := ih (i + 1) q h
      exact ⟨k + 1, v, by rw [h1]; congr 1; omega, by simpa using h2⟩
    | some w =>
      rcases List.mem_cons.mp h with h | h
      · exact ⟨0, w, h, rfl⟩
      · obtain ⟨k, v, h1, h2⟩ := ih (i + 1) q h
        exact ⟨k + 1, v, by rw [h1]; congr 1; omega, by simpa using h2⟩
def rf_okset (L : List (Option Value)) (i : Nat) : Bool := match i with
  | 0 => true
  | j + 1 => match L[j]? with
    | some (some v) => v.category != 2
    | _ => true
theorem rf_lv_set {ad : Nat → Nat} {ls : Array Slot} {n i : Nat} {L : List (Option Value)} {v : Value} (h : lv_has ls n ((i, rf_cv ad v) :: (rf_lv ad 0 L).filter (fun q => !(q.1 == i) && !(q.1 + 1 == i && q.2.category == 2)))) (ho : rf_okset L i = true) : lv_has ls n (rf_lv ad 0 (L.set i (some v))) := by
  refine ⟨h.1, h.2.1, fun q hq => ?_⟩
  obtain ⟨k, w, rfl, hk⟩ := rf_lv_of ad _ 0 q hq
  rw [Nat.zero_add] at hq ⊢
  by_cases e : k = i
  · subst e
    have hlt : k < L.length := by
      have h3 := (List.getElem?_eq_some_iff.mp hk).1
      simpa using h3
    rw [List.getElem?_set_self hlt] at hk
    have e2 : v = w := by simpa using hk
    rw [← e2]
    exact h.2.2 _ List.mem_cons_self
  · rw [List.getElem?_set_ne (fun z => e z.symm)] at hk
    have h3 := rf_lv_in ad L 0 k w hk
    rw [Nat.zero_add] at h3
    refine h.2.2 _ (List.mem_cons_of_mem _ (List.mem_filter.mpr ⟨h3, ?_⟩))
    have e1 : (k == i) = false := by simpa using e
    simp only [e1, Bool.not_false, Bool.true_and]
    cases i with
    | zero => simp
    | succ j =>
      by_cases e3 : k = j
      · subst e3
        simp only [rf_okset, hk] at ho
        rw [rf_cv_cat]
        simpa using ho
      · have e4 : (k + 1 == j + 1) = false := by simpa using e3
        rw [e4]
        rfl
def rf_sl (vs : List Value) : List (Option Value) := vs.flatMap fun v => if v.category = 2 then [some v, none] else [some v]
def rf_ent (n : Nat) (vs : List Value) : List (Option Value) := rf_sl vs ++ List.replicate (n - (rf_sl vs).length) none
theorem rf_lv_none (ad : Nat → Nat) : ∀ (k i : Nat), rf_lv ad i (List.replicate k none) = [] := by
  intro k
  induction k with
  | zero => intro i; rfl
  | succ k ih => intro i; exact ih (i + 1)
theorem rf_lv_args (ad : Nat → Nat) (k : Nat) : ∀ (vs : List Value) (i : Nat), rf_lv ad i (rf_sl vs ++ List.replicate k none) = lv_args i (vs.map (rf_cv ad)) := by
  intro vs
  induction vs with
  | nil => intro i; exact rf_lv_none ad k i
  | cons v vs ih =>
    intro i
    by_cases h : v.category = 2
    · have e : rf_sl (v :: vs) = some v :: none :: rf_sl vs := by simp [rf_sl, h]
      rw [e]
      show (i, rf_cv ad v) :: rf_lv ad (i + 1 + 1) (rf_sl vs ++ List.replicate k none) = _
      rw [ih]
      simp [lv_args, rf_cv_cat, h]
    · have e : rf_sl (v :: vs) = some v :: rf_sl vs := by simp [rf_sl, h]
      rw [e]
      show (i, rf_cv ad v) :: rf_lv ad (i + 1) (rf_sl vs ++ List.replicate k none) = _
      rw [ih]
      simp [lv_args, rf_cv_cat, h]
theorem rf_sl_len (ad : Nat → Nat) : ∀ (vs : List Value), (lg_sl (vs.map (rf_cv ad))).length = (rf_sl vs).length := by
  intro vs
  induction vs with
  | nil => rfl
  | cons v vs ih =>
    by_cases h : v.category = 2
    · simp only [lg_sl, rf_sl, List.map_cons, List.flatMap_cons, rf_cv_cat, h, if_true, List.length_append] at ih ⊢
      simp only [ih, List.length_cons, List.length_nil]
    · simp only [lg_sl, rf_sl, List.map_cons, List.flatMap_cons, rf_cv_cat, h, if_false, List.length_append] at ih ⊢
      simp only [ih, List.length_cons, List.length_nil]
end
section
/-! a method: name, bytes, locals, answer's type, room -/
abbrev rf_Me : Type := MethodName × ByteArray × Nat × Option FieldType × Room
def rf_ws (y : rf_Me) : List Cond := Cond.code y.1 y.2.1 y.2.2.1 y.2.2.2.1 :: wsL_law
def rf_len : List Nat := [4, 6, 6, 5, 7, 5, 7, 5]
def rf_byt : List (List Int32) := [[108, 105, 110, 101], [114, 101, 97, 100, 101, 114], [115, 105, 108, 101, 110, 116], [97, 108, 111, 117, 100], [99, 111, 112, 121, 105, 115, 116], [116, 104, 105, 101, 102], [116, 101, 97, 99, 104, 101, 114], [101, 114, 114, 111, 114]]
def rf_sx : List (Nat × String) := [(44, "line"), (54, "reader"), (98, "silent"), (100, "aloud"), (102, "copyist"), (104, "thief"), (106, "teacher"), (59, "error")]
/-- what is carried beside the world: the nest's one link, the texts of the parser, the JDK's one static -/
def rf_X (ad : Nat → Nat) (A : Nat → Prop) (U : State) (H : Heap) : Prop :=
  va_Nw (.methodLinkNest RX3 26 yX6_has RX6) U ∧ (∀ (j : Nat) (q : Nat × String), rf_sx[j]? = some q → vk_R RX4 q.1 q.2 (ad (1000 + j)) U) ∧ vk_S 8 rf_len rf_byt (fun j => ad (1000 + j)) (fun j => ad (2000 + j)) A U H ∧ va_Z "java/lang/String" "COMPACT_STRINGS" "Z" (.int 1) A U H
theorem rf_X.warm {ad : Nat → Nat} {A : Nat → Prop} {s U : State} {H : Heap} (hW : s.WarmedH U.vm) (h : rf_X ad A s H) : rf_X ad A U H :=
  ⟨va_Nw.warmM hW h.1, fun j q hq => (h.2.1 j q hq).warm hW, h.2.2.1.moved hW.alike, h.2.2.2.moved hW.alike⟩
theorem rf_X.kept {ad : Nat → Nat} {A : Nat → Prop} {U : State} {H H1 : Heap} (h : rf_X ad A U H) (hq : ∀ a : Nat, a < H.size → ¬ A a → H1[a]? = H[a]?) : rf_X ad A U H1 :=
  ⟨h.1, h.2.1, h.2.2.1.kept hq, h.2.2.2.kept hq⟩
theorem rf_X.narrow {ad : Nat → Nat} {A B : Nat → Prop} {U : State} {H : Heap} (h : rf_X ad A U H) (hAB : ∀ q, B q → A q) : rf_X ad B U H :=
  ⟨h.1, h.2.1, h.2.2.1.narrow hAB, h.2.2.2.narrow hAB⟩
theorem rf_X.same {ad : Nat → Nat} {A : Nat → Prop} {u U : State} {H : Heap} (hv : U.vm = u.vm) (h : rf_X ad A u H) : rf_X ad A U H :=
  ⟨va_Nw.same rfl hv.symm h.1, fun j q hq => (h.2.1 j q hq).same hv, h.2.2.1.moved (hv ▸ Vm.Alike.refl _), h.2.2.2.moved (hv ▸ Vm.Alike.refl _)⟩
/-- where a method stands -/
def rf_cx (y : rf_Me) (p : Program) (s : State) (m : MethodId) (args : Array Value) (meth : Method) (c : Code) (D : va_G) (g : rf_G) (ad : Nat → Nat) (A : Nat → Prop) : Prop :=
  p.tables.exec = Jvm.exec ∧ c.code = y.2.1 ∧ meth.sig.returnType = y.2.2.2.1 ∧ meth.locks = false ∧ c.maxLocals = y.2.2.1 ∧ s.vm.findClass y.1.cls = some m.cls ∧ (∀ w ∈ wsL_law, w.before args s = true) ∧ va_K D vwCl (rf_tys g) s ∧ (∀ q, s.heap.size ≤ q → A q) ∧ rf_X ad A s s.heap
def rf_Q (D : va_G) (g : rf_G) (ad : Nat → Nat) (A : Nat → Prop) (Lay : List rf_Cell) (r : Option Value) (M' : rf_Mem) : Array Value → State → Outcome → State → Prop := fun _ st oc t =>
  (oc = .returned (r.map (rf_cv ad)) ∧ va_P D vwCl (rf_W g ad M' 0 Lay) t.heap) ∧ va_F A st t
/-- from this place of the method, with these locals, this stack and this memory, it comes to its end with the answer r and the memory M' -/
def Ev (Lay : List rf_Cell) (y : rf_Me) (pc : Nat) (L : List (Option Value)) (st : List Value) (M : rf_Mem) (r : Option Value) (M' : rf_Mem) : Prop :=
  ∀ (p : Program) (l : Launch) (e : Env) (s : State) (m : MethodId) (args : Array Value) (below : List Frame) (meth : Method) (c : Code) (D : va_G) (g : rf_G) (ad : Nat → Nat) (A : Nat → Prop) (H : Heap) (locs : List Loc) (ls : Array Slot),
    rf_cx y p s m args meth c D g ad A → va_P D vwCl (rf_W g ad M 0 Lay) H → va_D A (rf_W g ad M 0 Lay) → va_S A s.heap H locs → lv_has ls y.2.2.1 (rf_lv ad 0 L) →
    W p l e y.2.2.2.2 s m args below meth c H locs 0 0 (MQ below (rf_Q D g ad A Lay r M') args s 0 0 A) (F0 m pc ls (st.map (rf_cv ad)))
def rf_Pre (D : va_G) (g : rf_G) (ad : Nat → Nat) (Lay : List rf_Cell) (M : rf_Mem) (sz : Nat) (av : List Value) : Array Value → State → Prop := va_Pc (av.map (rf_cv ad)) (fun U => U.heap.size = sz ∧ va_P D vwCl (rf_W g ad M 0 Lay) U.heap ∧ va_K D vwCl (rf_tys g) U ∧ va_D (fun _ => True) (rf_W g ad M 0 Lay) ∧ rf_X ad (va_A (rf_W g ad M 0 Lay) sz) U U.heap)
/-- the contract of a method out of its walk -/
theorem rf_met {Lay : List rf_Cell} {y : rf_Me} {av : List Value} {M : rf_Mem} {r : Option Value} {M' : rf_Mem} (hpl : plainName y.1.cls = true) (hent : (rf_sl av).length ≤ y.2.2.1) (h : Ev Lay y 0 (rf_ent y.2.2.1 av) [] M r M') (l : Launch) (D : va_G) (g : rf_G) (ad : Nat → Nat) (sz : Nat) :
    Met l y.1 (rf_ws y) y.2.2.2.2 (rf_Pre D g ad Lay M sz av) (rf_Q D g ad (va_A (rf_W g ad M 0 Lay) sz) Lay r M') 0 0 (va_A (rf_W g ad M 0 Lay) sz) := by
  refine Met.ofW (cc := y.2.1) (maxL := y.2.2.1) (ret := y.2.2.2.1) hpl rfl ?_
  intro p e s m args below meth c s₁ B hml hv
  obtain ⟨rfl, hsz, hP, hK, hD0, hX⟩ := hv
  subst hsz
  have hl := lv_entry (av.map (rf_cv ad)) (n := y.2.2.1) (by rw [rf_sl_len]; exact hent)
  rw [lg_entry_eq]
  rw [← rf_lv_args ad (y.2.2.1 - (rf_sl av).length) av 0] at hl
  exact h p l e s m _ below meth c D g ad _ s.heap [] _ ⟨B.exec, B.bytes, B.returns, B.notSynchronized, hml, findClass_of_methodNamed B.named, fun w hw => (atoms_spec (ws := rf_ws y) B.pre) w (List.mem_cons_of_mem _ hw), hK, fun q h => Or.inr h, hX⟩ hP hD0.self va_S.rf hl

theorem ev_iconst {Lay : List rf_Cell} {y : rf_Me} {pc : Nat} {L : List (Option Value)} {st : List Value} {M : rf_Mem} {r : Option Value} {M' : rf_Mem} {n : Int} {v : Int32} (hd : decode y.2.1 pc = .ok (.iconst n, 1)) (hv : Int32.ofInt n = v) (h : Ev Lay y (pc + 1) L (.int v :: st) M r M') : Ev Lay y pc L (st) M r M' := by
  intro p l e s m args below meth c D g ad A H locs ls C hP hD hS hl
  exact lv_iconst C.1 C.2.1 hd hv (h p l e s m args below meth c D g ad A H locs ls C hP hD hS hl)
theorem ev_bipush {Lay : List rf_Cell} {y : rf_Me} {pc : Nat} {L : List (Option Value)} {st : List Value} {M : rf_Mem} {r : Option Value} {M' : rf_Mem} {n : Int} {v : Int32} (hd : decode y.2.1 pc = .ok (.bipush n, 2)) (hv : (Int8.ofInt n).toInt32 = v) (h : Ev Lay y (pc + 2) L (.int v :: st) M r M') : Ev Lay y pc L (st) M r M' := by
  intro p l e s m args below meth c D g ad A H locs ls C hP hD hS hl
  exact lv_bipush C.1 C.2.1 hd hv (h p l e s m args below meth c D g ad A H locs ls C hP hD hS hl)
theorem ev_sipush {Lay : List rf_Cell} {y : rf_Me} {pc : Nat} {L : List (Option Value)} {st : List Value} {M : rf_Mem} {r : Option Value} {M' : rf_Mem} {n : Int} {v : Int32} (hd : decode y.2.1 pc = .ok (.sipush n, 3)) (hv : (Int16.ofInt n).toInt32 = v) (h : Ev Lay y (pc + 3) L (.int v :: st) M r M') : Ev Lay y pc L (st) M r M' := by
  intro p l e s m args below meth c D g ad A H locs ls C hP hD hS hl
  exact lv_sipush C.1 C.2.1 hd hv (h p l e s m args below meth c D g ad A H locs ls C hP hD hS hl)
theorem ev_lconst {Lay : List rf_Cell} {y : rf_Me} {pc : Nat} {L : List (Option Value)} {st : List Value} {M : rf_Mem} {r : Option Value} {M' : rf_Mem} {n : Fin 2} {v : Int64} (hd : decode y.2.1 pc = .ok (.lconst n, 1)) (hv : Int64.ofNat (n : Nat) = v) (h : Ev Lay y (pc + 1) L (.long v :: st) M r M') : Ev Lay y pc L (st) M r M' := by
  intro p l e s m args below meth c D g ad A H locs ls C hP hD hS hl
  exact lv_lconst C.1 C.2.1 hd hv (h p l e s m args below meth c D g ad A H locs ls C hP hD hS hl)
theorem ev_iload {Lay : List rf_Cell} {y : rf_Me} {pc : Nat} {L : List (Option Value)} {st : List Value} {M : rf_Mem} {r : Option Value} {M' : rf_Mem} {i : Nat} {x : Int32} (hd : decode y.2.1 pc = .ok (.iload i, 2)) (hL : L[i]? = some (some (.int x))) (h : Ev Lay y (pc + 2) L (.int x :: st) M r M') : Ev Lay y pc L (st) M r M' := by
  intro p l e s m args below meth c D g ad A H locs ls C hP hD hS hl
  have hi : ls[i]? = some (.val (.int x)) := by
    have h3 := rf_lv_in ad L 0 i _ hL
    rw [Nat.zero_add] at h3
    exact hl.2.2 _ h3
  exact lv_iload C.1 C.2.1 hd hi (h p l e s m args below meth c D g ad A H locs ls C hP hD hS hl)
theorem ev_iload_n {Lay : List rf_Cell} {y : rf_Me} {pc : Nat} {L : List (Option Value)} {st : List Value} {M : rf_Mem} {r : Option Value} {M' : rf_Mem} {k : Fin 4} {x : Int32} (hd : decode y.2.1 pc = .ok (.iload_n k, 1)) (hL : L[k.val]? = some (some (.int x))) (h : Ev Lay y (pc + 1) L (.int x :: st) M r M') : Ev Lay y pc L st M r M' := by
  intro p l e s m args below meth c D g ad A H locs ls C hP hD hS hl
  have hi : ls[k.val]? = some (.val (.int x)) := by
    have h3 := rf_lv_in ad L 0 k.val _ hL
    rw [Nat.zero_add] at h3
    exact hl.2.2 _ h3
  exact lv_iload_n C.1 C.2.1 hd rfl hi (h p l e s m args below meth c D g ad A H locs ls C hP hD hS hl)
theorem ev_lload {Lay : List rf_Cell} {y : rf_Me} {pc : Nat} {L : List (Option Value)} {st : List Value} {M : rf_Mem} {r : Option Value} {M' : rf_Mem} {i : Nat} {x : Int64} (hd : decode y.2.1 pc = .ok (.lload i, 2)) (hL : L[i]? = some (some (.long x))) (h : Ev Lay y (pc + 2) L (.long x :: st) M r M') : Ev Lay y pc L (st) M r M' := by
  intro p l e s m args below meth c D g ad A H locs ls C hP hD hS hl
  have hi : ls[i]? = some (.val (.long x)) := by
    have h3 := rf_lv_in ad L 0 i _ hL
    rw [Nat.zero_add] at h3
    exact hl.2.2 _ h3
  exact lv_lload C.1 C.2.1 hd hi (h p l e s m args below meth c D g ad A H locs ls C hP hD hS hl)
theorem ev_lload_n {Lay : List rf_Cell} {y : rf_Me} {pc : Nat} {L : List (Option Value)} {st : List Value} {M : rf_Mem} {r : Option Value} {M' : rf_Mem} {k : Fin 4} {x : Int64} (hd : decode y.2.1 pc = .ok (.lload_n k, 1)) (hL : L[k.val]? = some (some (.long x))) (h : Ev Lay y (pc + 1) L (.long x :: st) M r M') : Ev Lay y pc L st M r M' := by
  intro p l e s m args below meth c D g ad A H locs ls C hP hD hS hl
  have hi : ls[k.val]? = some (.val (.long x)) := by
    have h3 := rf_lv_in ad L 0 k.val _ hL
    rw [Nat.zero_add] at h3
    exact hl.2.2 _ h3
  exact lv_lload_n C.1 C.2.1 hd rfl hi (h p l e s m args below meth c D g ad A H locs ls C hP hD hS hl)
theorem ev_aload {Lay : List rf_Cell} {y : rf_Me} {pc : Nat} {L : List (Option Value)} {st : List Value} {M : rf_Mem} {r : Option Value} {M' : rf_Mem} {i : Nat} {x : Nat} (hd : decode y.2.1 pc = .ok (.aload i, 2)) (hL : L[i]? = some (some (.ref x))) (h : Ev Lay y (pc + 2) L (.ref x :: st) M r M') : Ev Lay y pc L (st) M r M' := by
  intro p l e s m args below meth c D g ad A H locs ls C hP hD hS hl
  have hi : ls[i]? = some (.val (.ref (ad x))) := by
    have h3 := rf_lv_in ad L 0 i _ hL
    rw [Nat.zero_add] at h3
    exact hl.2.2 _ h3
  exact lv_aload C.1 C.2.1 hd hi (h p l e s m args below meth c D g ad A H locs ls C hP hD hS hl)
theorem ev_aload_n {Lay : List rf_Cell} {y : rf_Me} {pc : Nat} {L : List (Option Value)} {st : List Value} {M : rf_Mem} {r : Option Value} {M' : rf_Mem} {k : Fin 4} {x : Nat} (hd : decode y.2.1 pc = .ok (.aload_n k, 1)) (hL : L[k.val]? = some (some (.ref x))) (h : Ev Lay y (pc + 1) L (.ref x :: st) M r M') : Ev Lay y pc L st M r M' := by
  intro p l e s m args below meth c D g ad A H locs ls C hP hD hS hl
  have hi : ls[k.val]? = some (.val (.ref (ad x))) := by
    have h3 := rf_lv_in ad L 0 k.val _ hL
    rw [Nat.zero_add] at h3
    exact hl.2.2 _ h3
  exact lv_aload_n C.1 C.2.1 hd rfl hi (h p l e s m args below meth c D g ad A H locs ls C hP hD hS hl)
theorem ev_iadd {Lay : List rf_Cell} {y : rf_Me} {pc : Nat} {L : List (Option Value)} {st : List Value} {M : rf_Mem} {r : Option Value} {M' : rf_Mem} {x z : Int32} (hd : decode y.2.1 pc = .ok (.iadd, 1)) (h : Ev Lay y (pc + 1) L (.int (x + z) :: st) M r M') : Ev Lay y pc L (.int z :: .int x :: st) M r M' := by
  intro p l e s m args below meth c D g ad A H locs ls C hP hD hS hl
  exact lv_iadd C.1 C.2.1 hd  (h p l e s m args below meth c D g ad A H locs ls C hP hD hS hl)
theorem ev_isub {Lay : List rf_Cell} {y : rf_Me} {pc : Nat} {L : List (Option Value)} {st : List Value} {M : rf_Mem} {r : Option Value} {M' : rf_Mem} {x z : Int32} (hd : decode y.2.1 pc = .ok (.isub, 1)) (h : Ev Lay y (pc + 1) L (.int (x - z) :: st) M r M') : Ev Lay y pc L (.int z :: .int x :: st) M r M' := by
  intro p l e s m args below meth c D g ad A H locs ls C hP hD hS hl
  exact lv_isub C.1 C.2.1 hd  (h p l e s m args below meth c D g ad A H locs ls C hP hD hS hl)
theorem ev_imul {Lay : List rf_Cell} {y : rf_Me} {pc : Nat} {L : List (Option Value)} {st : List Value} {M : rf_Mem} {r : Option Value} {M' : rf_Mem} {x z : Int32} (hd : decode y.2.1 pc = .ok (.imul, 1)) (h : Ev Lay y (pc + 1) L (.int (x * z) :: st) M r M') : Ev Lay y pc L (.int z :: .int x :: st) M r M' := by
  intro p l e s m args below meth c D g ad A H locs ls C hP hD hS hl
  exact lv_imul C.1 C.2.1 hd  (h p l e s m args below meth c D g ad A H locs ls C hP hD hS hl)
theorem ev_iand {Lay : List rf_Cell} {y : rf_Me} {pc : Nat} {L : List (Option Value)} {st : List Value} {M : rf_Mem} {r : Option Value} {M' : rf_Mem} {x z : Int32} (hd : decode y.2.1 pc = .ok (.iand, 1)) (h : Ev Lay y (pc + 1) L (.int (x &&& z) :: st) M r M') : Ev Lay y pc L (.int z :: .int x :: st) M r M' := by
  intro p l e s m args below meth c D g ad A H locs ls C hP hD hS hl
  exact lv_iand C.1 C.2.1 hd  (h p l e s m args below meth c D g ad A H locs ls C hP hD hS hl)
theorem ev_ior {Lay : List rf_Cell} {y : rf_Me} {pc : Nat} {L : List (Option Value)} {st : List Value} {M : rf_Mem} {r : Option Value} {M' : rf_Mem} {x z : Int32} (hd : decode y.2.1 pc = .ok (.ior, 1)) (h : Ev Lay y (pc + 1) L (.int (x ||| z) :: st) M r M') : Ev Lay y pc L (.int z :: .int x :: st) M r M' := by
  intro p l e s m args below meth c D g ad A H locs ls C hP hD hS hl
  exact lv_ior C.1 C.2.1 hd  (h p l e s m args below meth c D g ad A H locs ls C hP hD hS hl)
theorem ev_ixor {Lay : List rf_Cell} {y : rf_Me} {pc : Nat} {L : List (Option Value)} {st : List Value} {M : rf_Mem} {r : Option Value} {M' : rf_Mem} {x z : Int32} (hd : decode y.2.1 pc = .ok (.ixor, 1)) (h : Ev Lay y (pc + 1) L (.int (x ^^^ z) :: st) M r M') : Ev Lay y pc L (.int z :: .int x :: st) M r M' := by
  intro p l e s m args below meth c D g ad A H locs ls C hP hD hS hl
  exact lv_ixor C.1 C.2.1 hd  (h p l e s m args below meth c D g ad A H locs ls C hP hD hS hl)
theorem ev_idiv {Lay : List rf_Cell} {y : rf_Me} {pc : Nat} {L : List (Option Value)} {st : List Value} {M : rf_Mem} {r : Option Value} {M' : rf_Mem} {x z : Int32} (hd : decode y.2.1 pc = .ok (.idiv, 1)) (hne : ¬ z = 0) (h : Ev Lay y (pc + 1) L (.int (x / z) :: st) M r M') : Ev Lay y pc L (.int z :: .int x :: st) M r M' := by
  intro p l e s m args below meth c D g ad A H locs ls C hP hD hS hl
  exact lv_idiv C.1 C.2.1 hd hne (h p l e s m args below meth c D g ad A H locs ls C hP hD hS hl)
theorem ev_irem {Lay : List rf_Cell} {y : rf_Me} {pc : Nat} {L : List (Option Value)} {st : List Value} {M : rf_Mem} {r : Option Value} {M' : rf_Mem} {x z : Int32} (hd : decode y.2.1 pc = .ok (.irem, 1)) (hne : ¬ z = 0) (h : Ev Lay y (pc + 1) L (.int (x - x / z * z) :: st) M r M') : Ev Lay y pc L (.int z :: .int x :: st) M r M' := by
  intro p l e s m args below meth c D g ad A H locs ls C hP hD hS hl
  exact lv_irem C.1 C.2.1 hd hne (h p l e s m args below meth c D g ad A H locs ls C hP hD hS hl)
theorem ev_ishl {Lay : List rf_Cell} {y : rf_Me} {pc : Nat} {L : List (Option Value)} {st : List Value} {M : rf_Mem} {r : Option Value} {M' : rf_Mem} {x z : Int32} (hd : decode y.2.1 pc = .ok (.ishl, 1)) (h : Ev Lay y (pc + 1) L (.int (x <<< (z &&& 31)) :: st) M r M') : Ev Lay y pc L (.int z :: .int x :: st) M r M' := by
  intro p l e s m args below meth c D g ad A H locs ls C hP hD hS hl
  exact lv_ishl C.1 C.2.1 hd  (h p l e s m args below meth c D g ad A H locs ls C hP hD hS hl)
theorem ev_ishr {Lay : List rf_Cell} {y : rf_Me} {pc : Nat} {L : List (Option Value)} {st : List Value} {M : rf_Mem} {r : Option Value} {M' : rf_Mem} {x z : Int32} (hd : decode y.2.1 pc = .ok (.ishr, 1)) (h : Ev Lay y (pc + 1) L (.int (x >>> (z &&& 31)) :: st) M r M') : Ev Lay y pc L (.int z :: .int x :: st) M r M' := by
  intro p l e s m args below meth c D g ad A H locs ls C hP hD hS hl
  exact lv_ishr C.1 C.2.1 hd  (h p l e s m args below meth c D g ad A H locs ls C hP hD hS hl)
theorem ev_iushr {Lay : List rf_Cell} {y : rf_Me} {pc : Nat} {L : List (Option Value)} {st : List Value} {M : rf_Mem} {r : Option Value} {M' : rf_Mem} {x z : Int32} (hd : decode y.2.1 pc = .ok (.iushr, 1)) (h : Ev Lay y (pc + 1) L (.int (x.toUInt32 >>> (z.toUInt32 &&& Int32.toUInt32 31)).toInt32 :: st) M r M') : Ev Lay y pc L (.int z :: .int x :: st) M r M' := by
  intro p l e s m args below meth c D g ad A H locs ls C hP hD hS hl
  exact lv_iushr C.1 C.2.1 hd rfl (h p l e s m args below meth c D g ad A H locs ls C hP hD hS hl)
theorem ev_i2l {Lay : List rf_Cell} {y : rf_Me} {pc : Nat} {L : List (Option Value)} {st : List Value} {M : rf_Mem} {r : Option Value} {M' : rf_Mem} {x : Int32} (hd : decode y.2.1 pc = .ok (.i2l, 1)) (h : Ev Lay y (pc + 1) L (.long x.toInt64 :: st) M r M') : Ev Lay y pc L (.int x :: st) M r M' := by
  intro p l e s m args below meth c D g ad A H locs ls C hP hD hS hl
  exact lv_i2l C.1 C.2.1 hd rfl (h p l e s m args below meth c D g ad A H locs ls C hP hD hS hl)
theorem ev_l2i {Lay : List rf_Cell} {y : rf_Me} {pc : Nat} {L : List (Option Value)} {st : List Value} {M : rf_Mem} {r : Option Value} {M' : rf_Mem} {x : Int64} (hd : decode y.2.1 pc = .ok (.l2i, 1)) (h : Ev Lay y (pc + 1) L (.int x.toInt32 :: st) M r M') : Ev Lay y pc L (.long x :: st) M r M' := by
  intro p l e s m args below meth c D g ad A H locs ls C hP hD hS hl
  exact lv_l2i C.1 C.2.1 hd rfl (h p l e s m args below meth c D g ad A H locs ls C hP hD hS hl)
theorem ev_ladd {Lay : List rf_Cell} {y : rf_Me} {pc : Nat} {L : List (Option Value)} {st : List Value} {M : rf_Mem} {r : Option Value} {M' : rf_Mem} {x z : Int64} (hd : decode y.2.1 pc = .ok (.ladd, 1)) (h : Ev Lay y (pc + 1) L (.long (x + z) :: st) M r M') : Ev Lay y pc L (.long z :: .long x :: st) M r M' := by
  intro p l e s m args below meth c D g ad A H locs ls C hP hD hS hl
  exact lv_ladd C.1 C.2.1 hd  (h p l e s m args below meth c D g ad A H locs ls C hP hD hS hl)
theorem ev_lmul {Lay : List rf_Cell} {y : rf_Me} {pc : Nat} {L : List (Option Value)} {st : List Value} {M : rf_Mem} {r : Option Value} {M' : rf_Mem} {x z : Int64} (hd : decode y.2.1 pc = .ok (.lmul, 1)) (h : Ev Lay y (pc + 1) L (.long (x * z) :: st) M r M') : Ev Lay y pc L (.long z :: .long x :: st) M r M' := by
  intro p l e s m args below meth c D g ad A H locs ls C hP hD hS hl
  exact lv_lmul C.1 C.2.1 hd  (h p l e s m args below meth c D g ad A H locs ls C hP hD hS hl)
theorem ev_land {Lay : List rf_Cell} {y : rf_Me} {pc : Nat} {L : List (Option Value)} {st : List Value} {M : rf_Mem} {r : Option Value} {M' : rf_Mem} {x z : Int64} (hd : decode y.2.1 pc = .ok (.land, 1)) (h : Ev Lay y (pc + 1) L (.long (x &&& z) :: st) M r M') : Ev Lay y pc L (.long z :: .long x :: st) M r M' := by
  intro p l e s m args below meth c D g ad A H locs ls C hP hD hS hl
  exact lv_land C.1 C.2.1 hd  (h p l e s m args below meth c D g ad A H locs ls C hP hD hS hl)
theorem ev_lrem {Lay : List rf_Cell} {y : rf_Me} {pc : Nat} {L : List (Option Value)} {st : List Value} {M : rf_Mem} {r : Option Value} {M' : rf_Mem} {x z : Int64} (hd : decode y.2.1 pc = .ok (.lrem, 1)) (hne : ¬ z = 0) (h : Ev Lay y (pc + 1) L (.long (x - x / z * z) :: st) M r M') : Ev Lay y pc L (.long z :: .long x :: st) M r M' := by
  intro p l e s m args below meth c D g ad A H locs ls C hP hD hS hl
  exact lv_lrem C.1 C.2.1 hd hne (h p l e s m args below meth c D g ad A H locs ls C hP hD hS hl)
theorem ev_lushr {Lay : List rf_Cell} {y : rf_Me} {pc : Nat} {L : List (Option Value)} {st : List Value} {M : rf_Mem} {r : Option Value} {M' : rf_Mem} {x : Int64} {z : Int32} (hd : decode y.2.1 pc = .ok (.lushr, 1)) (h : Ev Lay y (pc + 1) L (.long (x.toUInt64 >>> (z.toInt64.toUInt64 &&& Int64.toUInt64 63)).toInt64 :: st) M r M') : Ev Lay y pc L (.int z :: .long x :: st) M r M' := by
  intro p l e s m args below meth c D g ad A H locs ls C hP hD hS hl
  exact lv_lushr C.1 C.2.1 hd rfl (h p l e s m args below meth c D g ad A H locs ls C hP hD hS hl)
theorem ev_lshr {Lay : List rf_Cell} {y : rf_Me} {pc : Nat} {L : List (Option Value)} {st : List Value} {M : rf_Mem} {r : Option Value} {M' : rf_Mem} {x : Int64} {z : Int32} (hd : decode y.2.1 pc = .ok (.lshr, 1)) (h : Ev Lay y (pc + 1) L (.long (x >>> (z.toInt64 &&& 63)) :: st) M r M') : Ev Lay y pc L (.int z :: .long x :: st) M r M' := by
  intro p l e s m args below meth c D g ad A H locs ls C hP hD hS hl
  exact lv_lshr C.1 C.2.1 hd rfl (h p l e s m args below meth c D g ad A H locs ls C hP hD hS hl)
theorem ev_lcmp {Lay : List rf_Cell} {y : rf_Me} {pc : Nat} {L : List (Option Value)} {st : List Value} {M : rf_Mem} {r : Option Value} {M' : rf_Mem} {x z : Int64} (hd : decode y.2.1 pc = .ok (.lcmp, 1)) (h : Ev Lay y (pc + 1) L (.int (lg_cmp x z) :: st) M r M') : Ev Lay y pc L (.long z :: .long x :: st) M r M' := by
  intro p l e s m args below meth c D g ad A H locs ls C hP hD hS hl
  exact W.lcmp C.1 C.2.1 hd  (h p l e s m args below meth c D g ad A H locs ls C hP hD hS hl)
theorem ev_dup {Lay : List rf_Cell} {y : rf_Me} {pc : Nat} {L : List (Option Value)} {st : List Value} {M : rf_Mem} {r : Option Value} {M' : rf_Mem} {v : Value} (hd : decode y.2.1 pc = .ok (.dup, 1)) (hv : v.category = 1) (h : Ev Lay y (pc + 1) L (v :: v :: st) M r M') : Ev Lay y pc L (v :: st) M r M' := by
  intro p l e s m args below meth c D g ad A H locs ls C hP hD hS hl
  exact lv_dup C.1 C.2.1 hd ((rf_cv_cat ad v).trans hv) (h p l e s m args below meth c D g ad A H locs ls C hP hD hS hl)
theorem ev_pop {Lay : List rf_Cell} {y : rf_Me} {pc : Nat} {L : List (Option Value)} {st : List Value} {M : rf_Mem} {r : Option Value} {M' : rf_Mem} {v : Value} (hd : decode y.2.1 pc = .ok (.pop, 1)) (hv : v.category = 1) (h : Ev Lay y (pc + 1) L (st) M r M') : Ev Lay y pc L (v :: st) M r M' := by
  intro p l e s m args below meth c D g ad A H locs ls C hP hD hS hl
  exact lv_pop C.1 C.2.1 hd ((rf_cv_cat ad v).trans hv) (h p l e s m args below meth c D g ad A H locs ls C hP hD hS hl)
theorem ev_dup2 {Lay : List rf_Cell} {y : rf_Me} {pc : Nat} {L : List (Option Value)} {st : List Value} {M : rf_Mem} {r : Option Value} {M' : rf_Mem} {v u : Value} (hd : decode y.2.1 pc = .ok (.dup2, 1)) (hv : v.category = 1) (hu : u.category = 1) (h : Ev Lay y (pc + 1) L (v :: u :: v :: u :: st) M r M') : Ev Lay y pc L (v :: u :: st) M r M' := by
  intro p l e s m args below meth c D g ad A H locs ls C hP hD hS hl
  exact lv_dup2_11 C.1 C.2.1 hd ((rf_cv_cat ad v).trans hv) ((rf_cv_cat ad u).trans hu) (h p l e s m args below meth c D g ad A H locs ls C hP hD hS hl)
theorem ev_ldc {Lay : List rf_Cell} {y : rf_Me} {pc : Nat} {L : List (Option Value)} {st : List Value} {M : rf_Mem} {r : Option Value} {M' : rf_Mem} {idx : Nat} {v : Int32} (hd : decode y.2.1 pc = .ok (.ldc idx, 2)) (hw : Cond.constant y.1.cls idx v ∈ wsL_law) (h : Ev Lay y (pc + 2) L (.int v :: st) M r M') : Ev Lay y pc L st M r M' := by
  intro p l e s m args below meth c D g ad A H locs ls C hP hD hS hl
  exact lv_ldc C.1 C.2.1 C.2.2.2.2.2.1 (C.2.2.2.2.2.2.1 _ hw) hd (h p l e s m args below meth c D g ad A H locs ls C hP hD hS hl)
theorem ev_ldcw {Lay : List rf_Cell} {y : rf_Me} {pc : Nat} {L : List (Option Value)} {st : List Value} {M : rf_Mem} {r : Option Value} {M' : rf_Mem} {idx : Nat} {v : Int32} (hd : decode y.2.1 pc = .ok (.ldc_w idx, 3)) (hw : Cond.constant y.1.cls idx v ∈ wsL_law) (h : Ev Lay y (pc + 3) L (.int v :: st) M r M') : Ev Lay y pc L st M r M' := by
  intro p l e s m args below meth c D g ad A H locs ls C hP hD hS hl
  exact lv_ldcw C.1 C.2.1 C.2.2.2.2.2.1 (C.2.2.2.2.2.2.1 _ hw) hd (h p l e s m args below meth c D g ad A H locs ls C hP hD hS hl)
theorem ev_ldc2 {Lay : List rf_Cell} {y : rf_Me} {pc : Nat} {L : List (Option Value)} {st : List Value} {M : rf_Mem} {r : Option Value} {M' : rf_Mem} {idx : Nat} {v : Int64} (hd : decode y.2.1 pc = .ok (.ldc2_w idx, 3)) (hw : Cond.constantLong y.1.cls idx v ∈ wsL_law) (h : Ev Lay y (pc + 3) L (.long v :: st) M r M') : Ev Lay y pc L st M r M' := by
  intro p l e s m args below meth c D g ad A H locs ls C hP hD hS hl
  exact lv_ldc2 C.1 C.2.1 C.2.2.2.2.2.1 (C.2.2.2.2.2.2.1 _ hw) hd (h p l e s m args below meth c D g ad A H locs ls C hP hD hS hl)
theorem ev_ldcS {Lay : List rf_Cell} {y : rf_Me} {pc : Nat} {L : List (Option Value)} {st : List Value} {M : rf_Mem} {r : Option Value} {M' : rf_Mem} {idx j : Nat} {tx : String} (hd : decode y.2.1 pc = .ok (.ldc idx, 2)) (hy : y.1.cls = RX4) (hj : rf_sx[j]? = some (idx, tx)) (h : Ev Lay y (pc + 2) L (.ref (1000 + j) :: st) M r M') : Ev Lay y pc L st M r M' := by
  intro p l e s m args below meth c D g ad A H locs ls C hP hD hS hl
  exact va_ldcS C.1 C.2.1 (own := RX4) (hy ▸ C.2.2.2.2.2.1) (C.2.2.2.2.2.2.2.2.2.2.1 j _ hj) hd (h p l e s m args below meth c D g ad A H locs ls C hP hD hS hl)
theorem ev_istore {Lay : List rf_Cell} {y : rf_Me} {pc : Nat} {L : List (Option Value)} {st : List Value} {M : rf_Mem} {r : Option Value} {M' : rf_Mem} {i : Nat} {x : Int32} (hd : decode y.2.1 pc = .ok (.istore i, 2)) (hn : i < y.2.2.1) (ho : rf_okset L i = true) (h : Ev Lay y (pc + 2) (L.set i (some (.int x))) st M r M') : Ev Lay y pc L (.int x :: st) M r M' := by
  intro p l e s m args below meth c D g ad A H locs ls C hP hD hS hl
  exact lv_istore C.1 C.2.1 hd hl hn rfl (fun ls' hl' => (h p l e s m args below meth c D g ad A H locs ls' C hP hD hS (rf_lv_set hl' ho)))
theorem ev_istore_n {Lay : List rf_Cell} {y : rf_Me} {pc : Nat} {L : List (Option Value)} {st : List Value} {M : rf_Mem} {r : Option Value} {M' : rf_Mem} {k : Fin 4} {x : Int32} (hd : decode y.2.1 pc = .ok (.istore_n k, 1)) (hn : k.val < y.2.2.1) (ho : rf_okset L k.val = true) (h : Ev Lay y (pc + 1) (L.set k.val (some (.int x))) st M r M') : Ev Lay y pc L (.int x :: st) M r M' := by
  intro p l e s m args below meth c D g ad A H locs ls C hP hD hS hl
  exact lv_istore_n C.1 C.2.1 hd rfl hl hn rfl (fun ls' hl' => (h p l e s m args below meth c D g ad A H locs ls' C hP hD hS (rf_lv_set hl' ho)))
theorem ev_astore {Lay : List rf_Cell} {y : rf_Me} {pc : Nat} {L : List (Option Value)} {st : List Value} {M : rf_Mem} {r : Option Value} {M' : rf_Mem} {i : Nat} {x : Nat} (hd : decode y.2.1 pc = .ok (.astore i, 2)) (hn : i < y.2.2.1) (ho : rf_okset L i = true) (h : Ev Lay y (pc + 2) (L.set i (some (.ref x))) st M r M') : Ev Lay y pc L (.ref x :: st) M r M' := by
  intro p l e s m args below meth c D g ad A H locs ls C hP hD hS hl
  exact lv_astore C.1 C.2.1 hd hl hn rfl (fun ls' hl' => (h p l e s m args below meth c D g ad A H locs ls' C hP hD hS (rf_lv_set hl' ho)))
theorem ev_astore_n {Lay : List rf_Cell} {y : rf_Me} {pc : Nat} {L : List (Option Value)} {st : List Value} {M : rf_Mem} {r : Option Value} {M' : rf_Mem} {k : Fin 4} {x : Nat} (hd : decode y.2.1 pc = .ok (.astore_n k, 1)) (hn : k.val < y.2.2.1) (ho : rf_okset L k.val = true) (h : Ev Lay y (pc + 1) (L.set k.val (some (.ref x))) st M r M') : Ev Lay y pc L (.ref x :: st) M r M' := by
  intro p l e s m args below meth c D g ad A H locs ls C hP hD hS hl
  exact lv_astore_n C.1 C.2.1 hd rfl hl hn rfl (fun ls' hl' => (h p l e s m args below meth c D g ad A H locs ls' C hP hD hS (rf_lv_set hl' ho)))
theorem ev_iinc {Lay : List rf_Cell} {y : rf_Me} {pc : Nat} {L : List (Option Value)} {st : List Value} {M : rf_Mem} {r : Option Value} {M' : rf_Mem} {i : Nat} {n : Int} {x v : Int32} (hd : decode y.2.1 pc = .ok (.iinc i n, 3)) (hL : L[i]? = some (some (.int x))) (hv : Int32.ofInt n = v) (hn : i < y.2.2.1) (ho : rf_okset L i = true) (h : Ev Lay y (pc + 3) (L.set i (some (.int (x + v)))) st M r M') : Ev Lay y pc L st M r M' := by
  intro p l e s m args below meth c D g ad A H locs ls C hP hD hS hl
  have h3 := rf_lv_in ad L 0 i _ hL
  rw [Nat.zero_add] at h3
  obtain ⟨k, hk⟩ := List.getElem?_of_mem h3
  exact lv_iinc C.1 C.2.1 hd hl hk (by rw [hv]) hn rfl (fun ls' hl' => (h p l e s m args below meth c D g ad A H locs ls' C hP hD hS (rf_lv_set (v := .int (x + v)) hl' ho)))
theorem ev_if_eq {Lay : List rf_Cell} {y : rf_Me} {pc : Nat} {L : List (Option Value)} {st : List Value} {M : rf_Mem} {r : Option Value} {M' : rf_Mem} {x : Int32} {off : Int} (tgt : Nat) (hd : decode y.2.1 pc = .ok (.ifCond .eq off, 3)) (ht : (pc : Int) + off = (tgt : Int)) (h : x = 0 → Ev Lay y tgt L st M r M') (h2 : ¬ x = 0 → Ev Lay y (pc + 3) L st M r M') : Ev Lay y pc L (.int x :: st) M r M' := by
  intro p l e s m args below meth c D g ad A H locs ls C hP hD hS hl
  exact lv_if_eq C.1 C.2.1 hd ht (fun z9 => (h z9 p l e s m args below meth c D g ad A H locs ls C hP hD hS hl)) (fun z9 => (h2 z9 p l e s m args below meth c D g ad A H locs ls C hP hD hS hl))
theorem ev_icmp_eq {Lay : List rf_Cell} {y : rf_Me} {pc : Nat} {L : List (Option Value)} {st : List Value} {M : rf_Mem} {r : Option Value} {M' : rf_Mem} {x z : Int32} {off : Int} (tgt : Nat) (hd : decode y.2.1 pc = .ok (.if_icmp .eq off, 3)) (ht : (pc : Int) + off = (tgt : Int)) (h : x = z → Ev Lay y tgt L st M r M') (h2 : ¬ x = z → Ev Lay y (pc + 3) L st M r M') : Ev Lay y pc L (.int z :: .int x :: st) M r M' := by
  intro p l e s m args below meth c D g ad A H locs ls C hP hD hS hl
  exact lv_icmp_eq C.1 C.2.1 hd ht (fun z9 => (h z9 p l e s m args below meth c D g ad A H locs ls C hP hD hS hl)) (fun z9 => (h2 z9 p l e s m args below meth c D g ad A H locs ls C hP hD hS hl))
theorem ev_if_ne {Lay : List rf_Cell} {y : rf_Me} {pc : Nat} {L : List (Option Value)} {st : List Value} {M : rf_Mem} {r : Option Value} {M' : rf_Mem} {x : Int32} {off : Int} (tgt : Nat) (hd : decode y.2.1 pc = .ok (.ifCond .ne off, 3)) (ht : (pc : Int) + off = (tgt : Int)) (h : ¬ x = 0 → Ev Lay y tgt L st M r M') (h2 : x = 0 → Ev Lay y (pc + 3) L st M r M') : Ev Lay y pc L (.int x :: st) M r M' := by
  intro p l e s m args below meth c D g ad A H locs ls C hP hD hS hl
  exact lv_if_ne C.1 C.2.1 hd ht (fun z9 => (h z9 p l e s m args below meth c D g ad A H locs ls C hP hD hS hl)) (fun z9 => (h2 z9 p l e s m args below meth c D g ad A H locs ls C hP hD hS hl))
theorem ev_icmp_ne {Lay : List rf_Cell} {y : rf_Me} {pc : Nat} {L : List (Option Value)} {st : List Value} {M : rf_Mem} {r : Option Value} {M' : rf_Mem} {x z : Int32} {off : Int} (tgt : Nat) (hd : decode y.2.1 pc = .ok (.if_icmp .ne off, 3)) (ht : (pc : Int) + off = (tgt : Int)) (h : ¬ x = z → Ev Lay y tgt L st M r M') (h2 : x = z → Ev Lay y (pc + 3) L st M r M') : Ev Lay y pc L (.int z :: .int x :: st) M r M' := by
  intro p l e s m args below meth c D g ad A H locs ls C hP hD hS hl
  exact lv_icmp_ne C.1 C.2.1 hd ht (fun z9 => (h z9 p l e s m args below meth c D g ad A H locs ls C hP hD hS hl)) (fun z9 => (h2 z9 p l e s m args below meth c D g ad A H locs ls C hP hD hS hl))
theorem ev_if_lt {Lay : List rf_Cell} {y : rf_Me} {pc : Nat} {L : List (Option Value)} {st : List Value} {M : rf_Mem} {r : Option Value} {M' : rf_Mem} {x : Int32} {off : Int} (tgt : Nat) (hd : decode y.2.1 pc = .ok (.ifCond .lt off, 3)) (ht : (pc : Int) + off = (tgt : Int)) (h : x < 0 → Ev Lay y tgt L st M r M') (h2 : ¬ x < 0 → Ev Lay y (pc + 3) L st M r M') : Ev Lay y pc L (.int x :: st) M r M' := by
  intro p l e s m args below meth c D g ad A H locs ls C hP hD hS hl
  exact lv_if_lt C.1 C.2.1 hd ht (fun z9 => (h z9 p l e s m args below meth c D g ad A H locs ls C hP hD hS hl)) (fun z9 => (h2 z9 p l e s m args below meth c D g ad A H locs ls C hP hD hS hl))
theorem ev_icmp_lt {Lay : List rf_Cell} {y : rf_Me} {pc : Nat} {L : List (Option Value)} {st : List Value} {M : rf_Mem} {r : Option Value} {M' : rf_Mem} {x z : Int32} {off : Int} (tgt : Nat) (hd : decode y.2.1 pc = .ok (.if_icmp .lt off, 3)) (ht : (pc : Int) + off = (tgt : Int)) (h : x < z → Ev Lay y tgt L st M r M') (h2 : ¬ x < z → Ev Lay y (pc + 3) L st M r M') : Ev Lay y pc L (.int z :: .int x :: st) M r M' := by
  intro p l e s m args below meth c D g ad A H locs ls C hP hD hS hl
  exact lv_icmp_lt C.1 C.2.1 hd ht (fun z9 => (h z9 p l e s m args below meth c D g ad A H locs ls C hP hD hS hl)) (fun z9 => (h2 z9 p l e s m args below meth c D g ad A H locs ls C hP hD hS hl))
theorem ev_if_ge {Lay : List rf_Cell} {y : rf_Me} {pc : Nat} {L : List (Option Value)} {st : List Value} {M : rf_Mem} {r : Option Value} {M' : rf_Mem} {x : Int32} {off : Int} (tgt : Nat) (hd : decode y.2.1 pc = .ok (.ifCond .ge off, 3)) (ht : (pc : Int) + off = (tgt : Int)) (h : 0 ≤ x → Ev Lay y tgt L st M r M') (h2 : ¬ 0 ≤ x → Ev Lay y (pc + 3) L st M r M') : Ev Lay y pc L (.int x :: st) M r M' := by
  intro p l e s m args below meth c D g ad A H locs ls C hP hD hS hl
  exact lv_if_ge C.1 C.2.1 hd ht (fun z9 => (h z9 p l e s m args below meth c D g ad A H locs ls C hP hD hS hl)) (fun z9 => (h2 z9 p l e s m args below meth c D g ad A H locs ls C hP hD hS hl))
theorem ev_icmp_ge {Lay : List rf_Cell} {y : rf_Me} {pc : Nat} {L : List (Option Value)} {st : List Value} {M : rf_Mem} {r : Option Value} {M' : rf_Mem} {x z : Int32} {off : Int} (tgt : Nat) (hd : decode y.2.1 pc = .ok (.if_icmp .ge off, 3)) (ht : (pc : Int) + off = (tgt : Int)) (h : z ≤ x → Ev Lay y tgt L st M r M') (h2 : ¬ z ≤ x → Ev Lay y (pc + 3) L st M r M') : Ev Lay y pc L (.int z :: .int x :: st) M r M' := by
  intro p l e s m args below meth c D g ad A H locs ls C hP hD hS hl
  exact lv_icmp_ge C.1 C.2.1 hd ht (fun z9 => (h z9 p l e s m args below meth c D g ad A H locs ls C hP hD hS hl)) (fun z9 => (h2 z9 p l e s m args below meth c D g ad A H locs ls C hP hD hS hl))
theorem ev_if_gt {Lay : List rf_Cell} {y : rf_Me} {pc : Nat} {L : List (Option Value)} {st : List Value} {M : rf_Mem} {r : Option Value} {M' : rf_Mem} {x : Int32} {off : Int} (tgt : Nat) (hd : decode y.2.1 pc = .ok (.ifCond .gt off, 3)) (ht : (pc : Int) + off = (tgt : Int)) (h : 0 < x → Ev Lay y tgt L st M r M') (h2 : ¬ 0 < x → Ev Lay y (pc + 3) L st M r M') : Ev Lay y pc L (.int x :: st) M r M' := by
  intro p l e s m args below meth c D g ad A H locs ls C hP hD hS hl
  exact lv_if_gt C.1 C.2.1 hd ht (fun z9 => (h z9 p l e s m args below meth c D g ad A H locs ls C hP hD hS hl)) (fun z9 => (h2 z9 p l e s m args below meth c D g ad A H locs ls C hP hD hS hl))
theorem ev_icmp_gt {Lay : List rf_Cell} {y : rf_Me} {pc : Nat} {L : List (Option Value)} {st : List Value} {M : rf_Mem} {r : Option Value} {M' : rf_Mem} {x z : Int32} {off : Int} (tgt : Nat) (hd : decode y.2.1 pc = .ok (.if_icmp .gt off, 3)) (ht : (pc : Int) + off = (tgt : Int)) (h : z < x → Ev Lay y tgt L st M r M') (h2 : ¬ z < x → Ev Lay y (pc + 3) L st M r M') : Ev Lay y pc L (.int z :: .int x :: st) M r M' := by
  intro p l e s m args below meth c D g ad A H locs ls C hP hD hS hl
  exact lv_icmp_gt C.1 C.2.1 hd ht (fun z9 => (h z9 p l e s m args below meth c D g ad A H locs ls C hP hD hS hl)) (fun z9 => (h2 z9 p l e s m args below meth c D g ad A H locs ls C hP hD hS hl))
theorem ev_if_le {Lay : List rf_Cell} {y : rf_Me} {pc : Nat} {L : List (Option Value)} {st : List Value} {M : rf_Mem} {r : Option Value} {M' : rf_Mem} {x : Int32} {off : Int} (tgt : Nat) (hd : decode y.2.1 pc = .ok (.ifCond .le off, 3)) (ht : (pc : Int) + off = (tgt : Int)) (h : x ≤ 0 → Ev Lay y tgt L st M r M') (h2 : ¬ x ≤ 0 → Ev Lay y (pc + 3) L st M r M') : Ev Lay y pc L (.int x :: st) M r M' := by
  intro p l e s m args below meth c D g ad A H locs ls C hP hD hS hl
  exact lv_if_le C.1 C.2.1 hd ht (fun z9 => (h z9 p l e s m args below meth c D g ad A H locs ls C hP hD hS hl)) (fun z9 => (h2 z9 p l e s m args below meth c D g ad A H locs ls C hP hD hS hl))
theorem ev_icmp_le {Lay : List rf_Cell} {y : rf_Me} {pc : Nat} {L : List (Option Value)} {st : List Value} {M : rf_Mem} {r : Option Value} {M' : rf_Mem} {x z : Int32} {off : Int} (tgt : Nat) (hd : decode y.2.1 pc = .ok (.if_icmp .le off, 3)) (ht : (pc : Int) + off = (tgt : Int)) (h : x ≤ z → Ev Lay y tgt L st M r M') (h2 : ¬ x ≤ z → Ev Lay y (pc + 3) L st M r M') : Ev Lay y pc L (.int z :: .int x :: st) M r M' := by
  intro p l e s m args below meth c D g ad A H locs ls C hP hD hS hl
  exact lv_icmp_le C.1 C.2.1 hd ht (fun z9 => (h z9 p l e s m args below meth c D g ad A H locs ls C hP hD hS hl)) (fun z9 => (h2 z9 p l e s m args below meth c D g ad A H locs ls C hP hD hS hl))
theorem ev_goto {Lay : List rf_Cell} {y : rf_Me} {pc : Nat} {L : List (Option Value)} {st : List Value} {M : rf_Mem} {r : Option Value} {M' : rf_Mem} {off : Int} (tgt : Nat) (hd : decode y.2.1 pc = .ok (.goto off, 3)) (ht : (pc : Int) + off = (tgt : Int)) (h : Ev Lay y tgt L st M r M') : Ev Lay y pc L st M r M' := by
  intro p l e s m args below meth c D g ad A H locs ls C hP hD hS hl
  exact lv_goto C.1 C.2.1 hd ht (h p l e s m args below meth c D g ad A H locs ls C hP hD hS hl)
end
section
/-- a field's link: the class's number, the place -/
def rf_fl (own : String) (idx ci k : Nat) : Prop := ∃ (C : String) (T : u_T) (N : Nat), vwCl[ci]? = some (C, T, N) ∧ k < N ∧ Cond.fieldLink own idx (T k).1 (T k).2.1 (T k).2.2.1 ∈ wsL_law ∧ ∀ w ∈ u_ws C T N, w ∈ wsL_law
/-- the same for a write: not final, an int (or a boolean) -/
def rf_fp (own : String) (idx ci k : Nat) (ty : FieldType) : Prop := ∃ (C : String) (T : u_T) (N : Nat) (tt : Nat → FieldType), vwCl[ci]? = some (C, T, N) ∧ k < N ∧ Cond.fieldLink own idx (T k).1 (T k).2.1 (T k).2.2.1 ∈ wsL_law ∧ (∀ w ∈ u_ws C T N, w ∈ wsL_law) ∧ (∀ k, k < N → parseFieldDescriptor (T k).2.2.1 = some (tt k)) ∧ (∀ a, a < N → ∀ b, b < N → a ≠ b → (T a).2.1 ≠ (T b).2.1) ∧ (T k).2.2.2 = false ∧ tt k = ty
theorem ev_getI {Lay : List rf_Cell} {y : rf_Me} {pc : Nat} {L : List (Option Value)} {st : List Value} {M : rf_Mem} {r : Option Value} {M' : rf_Mem} {idx ci k q : Nat} {fl : List (Option Nat)} (hd : decode y.2.1 pc = .ok (.getfield idx, 3)) (hf : rf_fl y.1.cls idx ci k) (hq : Lay[q]? = some (.inl (ci, fl))) (hk : fl[k]? = some none) (h : Ev Lay y (pc + 3) L (.int (M q k) :: st) M r M') : Ev Lay y pc L (.ref q :: st) M r M' := by
  intro p l e s m args below meth c D g ad A H locs ls C hP hD hS hl
  obtain ⟨C1, T, N, h1, h2, h3, h4⟩ := hf
  have e1 := rf_W0 g ad M hq
  have e2 := rf_fs_get ad (M q) fl 0 k
  rw [hk, Nat.zero_add] at e2
  exact va_get (D := D) (ci := ci) (fs := rf_fs ad (M q) 0 fl) C.1 C.2.1 C.2.2.2.2.2.2.1 h4 C.2.2.2.2.2.1 C.2.2.2.2.2.2.2.1 hP q e1 h1 k h2 (C.2.2.2.2.2.2.1 _ h3) (fun _ z => z) e2 hd (h p l e s m args below meth c D g ad A H locs ls C hP hD hS hl)
theorem ev_getR {Lay : List rf_Cell} {y : rf_Me} {pc : Nat} {L : List (Option Value)} {st : List Value} {M : rf_Mem} {r : Option Value} {M' : rf_Mem} {idx ci k q c1 : Nat} {fl : List (Option Nat)} (hd : decode y.2.1 pc = .ok (.getfield idx, 3)) (hf : rf_fl y.1.cls idx ci k) (hq : Lay[q]? = some (.inl (ci, fl))) (hk : fl[k]? = some (some c1)) (h : Ev Lay y (pc + 3) L (.ref c1 :: st) M r M') : Ev Lay y pc L (.ref q :: st) M r M' := by
  intro p l e s m args below meth c D g ad A H locs ls C hP hD hS hl
  obtain ⟨C1, T, N, h1, h2, h3, h4⟩ := hf
  have e1 := rf_W0 g ad M hq
  have e2 := rf_fs_get ad (M q) fl 0 k
  rw [hk, Nat.zero_add] at e2
  exact va_get (D := D) (ci := ci) (fs := rf_fs ad (M q) 0 fl) C.1 C.2.1 C.2.2.2.2.2.2.1 h4 C.2.2.2.2.2.1 C.2.2.2.2.2.2.2.1 hP q e1 h1 k h2 (C.2.2.2.2.2.2.1 _ h3) (fun _ z => z) e2 hd (h p l e s m args below meth c D g ad A H locs ls C hP hD hS hl)
theorem ev_put {Lay : List rf_Cell} {y : rf_Me} {pc : Nat} {L : List (Option Value)} {st : List Value} {M : rf_Mem} {r : Option Value} {M' : rf_Mem} {idx ci k q : Nat} {ty : FieldType} {x : Int32} {fl : List (Option Nat)} (hd : decode y.2.1 pc = .ok (.putfield idx, 3)) (hf : rf_fp y.1.cls idx ci k ty) (hq : Lay[q]? = some (.inl (ci, fl))) (hk : fl[k]? = some none) (hn : narrow ty (.int x) = .int x) (hfit : fits ty (.int x) = true) (h : Ev Lay y (pc + 3) L st (rf_set M q k x) r M') : Ev Lay y pc L (.int x :: .ref q :: st) M r M' := by
  intro p l e s m args below meth c D g ad A H locs ls C hP hD hS hl
  obtain ⟨C1, T, N, tt, h1, h2, h3, h4, h5, h6, h7, h8⟩ := hf
  have e1 := rf_W0 g ad M hq
  have e3 := rf_S0 g ad M (upd (M q) k x) hq
  have e4 : rf_w g ad (rf_row M q (upd (M q) k x)) q (.inl (ci, fl)) = (ad q, .inr (ci, (rf_fs ad (M q) 0 fl).set k (.int x))) := by
    have e5 := rf_fs_set ad (M q) x fl 0 k hk
    rw [Nat.zero_add] at e5
    simp only [rf_w, rf_row_same, e5]
  rw [e4] at e3
  have hl2 : k < (rf_fs ad (M q) 0 fl).length := by
    have e2 := rf_fs_get ad (M q) fl 0 k
    rw [hk] at e2
    exact (List.getElem?_eq_some_iff.mp e2).1
  refine va_put (D := D) (ci := ci) (fs := rf_fs ad (M q) 0 fl) C.1 C.2.1 C.2.2.2.2.2.2.1 h4 tt h5 h6 C.2.2.2.2.2.1 C.2.2.2.2.2.2.2.1 hP hD hS q e1 h1 k h2 (C.2.2.2.2.2.2.1 _ h3) (fun _ z => z) h7 (ty := ty) (v := .int x) (by rw [h5 k h2, h8]) hn hfit hl2 hd (fun H1 locs1 hP1 hD1 hS1 => ?_)
  rw [e3] at hP1 hD1
  exact (h p l e s m args below meth c D g ad A H1 locs1 ls C hP1 hD1 hS1 hl)
theorem ev_iald {Lay : List rf_Cell} {y : rf_Me} {pc : Nat} {L : List (Option Value)} {st : List Value} {M : rf_Mem} {r : Option Value} {M' : rf_Mem} {q n : Nat} {i : Int32} (hd : decode y.2.1 pc = .ok (.iaload, 1)) (hq : Lay[q]? = some (.inr (.inl (n, 0)))) (hin : vp_in i n) (h : Ev Lay y (pc + 1) L (.int (M q i.toNatClampNeg) :: st) M r M') : Ev Lay y pc L (.int i :: .ref q :: st) M r M' := by
  intro p l e s m args below meth c D g ad A H locs ls C hP hD hS hl
  exact va_iald (D := D) C.1 C.2.1 C.2.2.2.2.2.2.2.1 hP q 0 (rf_W0 g ad M hq) rfl hin hd (h p l e s m args below meth c D g ad A H locs ls C hP hD hS hl)
theorem ev_zald {Lay : List rf_Cell} {y : rf_Me} {pc : Nat} {L : List (Option Value)} {st : List Value} {M : rf_Mem} {r : Option Value} {M' : rf_Mem} {q n : Nat} {i : Int32} (hd : decode y.2.1 pc = .ok (.baload, 1)) (hq : Lay[q]? = some (.inr (.inl (n, 1)))) (hin : vp_in i n) (h : Ev Lay y (pc + 1) L (.int (M q i.toNatClampNeg) :: st) M r M') : Ev Lay y pc L (.int i :: .ref q :: st) M r M' := by
  intro p l e s m args below meth c D g ad A H locs ls C hP hD hS hl
  exact va_zald (D := D) C.1 C.2.1 C.2.2.2.2.2.2.2.1 hP q 1 (rf_W0 g ad M hq) rfl hin hd (h p l e s m args below meth c D g ad A H locs ls C hP hD hS hl)
theorem ev_iast {Lay : List rf_Cell} {y : rf_Me} {pc : Nat} {L : List (Option Value)} {st : List Value} {M : rf_Mem} {r : Option Value} {M' : rf_Mem} {q n : Nat} {i x : Int32} (hd : decode y.2.1 pc = .ok (.iastore, 1)) (hq : Lay[q]? = some (.inr (.inl (n, 0)))) (hin : vp_in i n) (h : Ev Lay y (pc + 1) L st (rf_set M q i.toNatClampNeg x) r M') : Ev Lay y pc L (.int x :: .int i :: .ref q :: st) M r M' := by
  intro p l e s m args below meth c D g ad A H locs ls C hP hD hS hl
  have e3 := rf_S0 g ad M (upd (M q) i.toNatClampNeg x) hq
  have e4 : rf_w g ad (rf_row M q (upd (M q) i.toNatClampNeg x)) q (.inr (.inl (n, 0))) = (ad q, .inl (g.1, n, .inl (upd (M q) i.toNatClampNeg x))) := by
    simp only [rf_w, rf_row_same]
    rfl
  rw [e4] at e3
  refine va_iast (D := D) C.1 C.2.1 C.2.2.2.2.2.2.2.1 hP hD hS q 0 (rf_W0 g ad M hq) rfl hin hd (fun H1 locs1 hP1 hD1 hS1 => ?_)
  have hP1 : va_P D vwCl ((rf_W g ad M 0 Lay).set q (ad q, .inl (g.1, n, .inl (upd (M q) i.toNatClampNeg x)))) H1 := hP1
  have hD1 : va_D A ((rf_W g ad M 0 Lay).set q (ad q, .inl (g.1, n, .inl (upd (M q) i.toNatClampNeg x)))) := hD1
  rw [e3] at hP1 hD1
  exact (h p l e s m args below meth c D g ad A H1 locs1 ls C hP1 hD1 hS1 hl)
theorem ev_zast {Lay : List rf_Cell} {y : rf_Me} {pc : Nat} {L : List (Option Value)} {st : List Value} {M : rf_Mem} {r : Option Value} {M' : rf_Mem} {q n : Nat} {i x : Int32} (hd : decode y.2.1 pc = .ok (.bastore, 1)) (hq : Lay[q]? = some (.inr (.inl (n, 1)))) (hin : vp_in i n) (h : Ev Lay y (pc + 1) L st (rf_set M q i.toNatClampNeg (vp_nar .boolean x)) r M') : Ev Lay y pc L (.int x :: .int i :: .ref q :: st) M r M' := by
  intro p l e s m args below meth c D g ad A H locs ls C hP hD hS hl
  have e3 := rf_S0 g ad M (upd (M q) i.toNatClampNeg (vp_nar .boolean x)) hq
  have e4 : rf_w g ad (rf_row M q (upd (M q) i.toNatClampNeg (vp_nar .boolean x))) q (.inr (.inl (n, 1))) = (ad q, .inl (g.2.1, n, .inl (upd (M q) i.toNatClampNeg (vp_nar .boolean x)))) := by
    simp only [rf_w, rf_row_same]
    rfl
  rw [e4] at e3
  refine va_zast (D := D) C.1 C.2.1 C.2.2.2.2.2.2.2.1 hP hD hS q 1 (rf_W0 g ad M hq) rfl hin hd (fun H1 locs1 hP1 hD1 hS1 => ?_)
  have hP1 : va_P D vwCl ((rf_W g ad M 0 Lay).set q (ad q, .inl (g.2.1, n, .inl (upd (M q) i.toNatClampNeg (vp_nar .boolean x))))) H1 := hP1
  have hD1 : va_D A ((rf_W g ad M 0 Lay).set q (ad q, .inl (g.2.1, n, .inl (upd (M q) i.toNatClampNeg (vp_nar .boolean x))))) := hD1
  rw [e3] at hP1 hD1
  exact (h p l e s m args below meth c D g ad A H1 locs1 ls C hP1 hD1 hS1 hl)
theorem ev_alen {Lay : List rf_Cell} {y : rf_Me} {pc : Nat} {L : List (Option Value)} {st : List Value} {M : rf_Mem} {r : Option Value} {M' : rf_Mem} {q n : Nat} {v : Int32} (hd : decode y.2.1 pc = .ok (.arraylength, 1)) (hq : Lay[q]? = some (.inr (.inl (n, 0)))) (hv : Int32.ofNat n = v) (h : Ev Lay y (pc + 1) L (.int v :: st) M r M') : Ev Lay y pc L (.ref q :: st) M r M' := by
  intro p l e s m args below meth c D g ad A H locs ls C hP hD hS hl
  exact va_alen (D := D) C.1 C.2.1 C.2.2.2.2.2.2.2.1 hP q 0 (rf_W0 g ad M hq) rfl hv hd (h p l e s m args below meth c D g ad A H locs ls C hP hD hS hl)
theorem ev_aald {Lay : List rf_Cell} {y : rf_Me} {pc : Nat} {L : List (Option Value)} {st : List Value} {M : rf_Mem} {r : Option Value} {M' : rf_Mem} {q c1 : Nat} {cs : List Nat} {i : Int32} (hd : decode y.2.1 pc = .ok (.aaload, 1)) (hq : Lay[q]? = some (.inr (.inr cs))) (hin : vp_in i cs.length) (hc : cs[i.toNatClampNeg]? = some c1) (h : Ev Lay y (pc + 1) L (.ref c1 :: st) M r M') : Ev Lay y pc L (.int i :: .ref q :: st) M r M' := by
  intro p l e s m args below meth c D g ad A H locs ls C hP hD hS hl
  refine va_aldq (D := D) C.1 C.2.1 C.2.2.2.2.2.2.2.1 hP q 2 (rf_W0 g ad M hq) rfl hin hd ?_
  rw [hc]
  exact (h p l e s m args below meth c D g ad A H locs ls C hP hD hS hl)
theorem rf_cpw : Cond.native arraycopyName ∈ wsL_law ∧ Cond.static arraycopyName ∈ wsL_law ∧ Cond.initialized "java/lang/System" ∈ wsL_law := by decide +kernel
theorem ev_copy {Lay : List rf_Cell} {y : rf_Me} {pc : Nat} {L : List (Option Value)} {st : List Value} {M : rf_Mem} {r : Option Value} {M' : rf_Mem} {idx a b n0 n1 : Nat} {sp dp n : Int32} (hd : decode y.2.1 pc = .ok (.invokestatic idx, 3)) (hw1 : Cond.methodLink y.1.cls idx arraycopyName ∈ wsL_law) (ha : Lay[a]? = some (.inr (.inl (n0, 0)))) (hb : Lay[b]? = some (.inr (.inl (n1, 0)))) (h1 : ¬ sp < 0) (h2 : ¬ dp < 0) (h3 : ¬ n < 0) (h4 : sp.toNatClampNeg + n.toNatClampNeg ≤ n0) (h5 : dp.toNatClampNeg + n.toNatClampNeg ≤ n1)
    (hfr : 1 ≤ y.2.2.2.2.frames) (hlo : (st.map fun v => v.category).sum + (nativeFrameWords "java/lang/System" "arraycopy" 5 + 11) ≤ y.2.2.2.2.locals)
    (h : Ev Lay y (pc + 3) L st (rf_row M b (va_cpy (M a) (M b) sp.toNatClampNeg dp.toNatClampNeg n.toNatClampNeg)) r M') : Ev Lay y pc L (.int n :: .int dp :: .ref b :: .int sp :: .ref a :: st) M r M' := by
  intro p l e s m args below meth c D g ad A H locs ls C hP hD hS hl
  have e3 := rf_S0 g ad M (va_cpy (M a) (M b) sp.toNatClampNeg dp.toNatClampNeg n.toNatClampNeg) hb
  have e4 : rf_w g ad (rf_row M b (va_cpy (M a) (M b) sp.toNatClampNeg dp.toNatClampNeg n.toNatClampNeg)) b (.inr (.inl (n1, 0))) = (ad b, .inl (g.1, n1, .inl (va_cpy (M a) (M b) sp.toNatClampNeg dp.toNatClampNeg n.toNatClampNeg))) := by
    simp only [rf_w, rf_row_same]
    rfl
  rw [e4] at e3
  have hsum : ((st.map (rf_cv ad)).map fun v => v.category).sum = (st.map fun v => v.category).sum := by
    rw [List.map_map]
    congr 1
    exact List.map_congr_left (fun v _ => rf_cv_cat ad v)
  refine va_copyi (D := D) C.1 C.2.1 (C.2.2.2.2.1.trans hl.1.symm) C.2.2.2.2.2.1 (C.2.2.2.2.2.2.1 _ hw1) (C.2.2.2.2.2.2.1 _ (rf_cpw.1)) (C.2.2.2.2.2.2.1 _ (rf_cpw.2.1)) (C.2.2.2.2.2.2.1 _ (rf_cpw.2.2)) C.2.2.2.2.2.2.2.1 hP hD hS a b 0 0 (rf_W0 g ad M ha) (rf_W0 g ad M hb) rfl rfl rfl h1 h2 h3 h4 h5 (fun _ _ => rfl) hfr (by rw [hsum]; exact hlo) hd (fun H1 locs1 hP1 hD1 hS1 => ?_)
  have hP1 : va_P D vwCl ((rf_W g ad M 0 Lay).set b (ad b, .inl (g.1, n1, .inl (va_cpy (M a) (M b) sp.toNatClampNeg dp.toNatClampNeg n.toNatClampNeg)))) H1 := hP1
  have hD1 : va_D A ((rf_W g ad M 0 Lay).set b (ad b, .inl (g.1, n1, .inl (va_cpy (M a) (M b) sp.toNatClampNeg dp.toNatClampNeg n.toNatClampNeg)))) := hD1
  rw [e3] at hP1 hD1
  exact (h p l e s m args below meth c D g ad A H1 locs1 ls C hP1 hD1 hS1 hl)
theorem ev_iret {Lay : List rf_Cell} {y : rf_Me} {pc : Nat} {L : List (Option Value)} {st : List Value} {M : rf_Mem} {r : Option Value} {M' : rf_Mem} {x : Int32} {ty : FieldType} (hd : decode y.2.1 pc = .ok (.ireturn, 1)) (hr : y.2.2.2.1 = some ty) (hn : narrow ty (.int x) = .int x) : Ev Lay y pc L [.int x] M (some (.int x)) M := by
  intro p l e s m args below meth c D g ad A H locs ls C hP hD hS hl
  exact W.zret C.1 C.2.1 (C.2.2.1.trans hr) hn (fun t ht hW => ⟨⟨rfl, by rw [ht]; exact hP⟩, hS.F ht⟩) hS.2.2 hd C.2.2.2.1
theorem ev_vret {Lay : List rf_Cell} {y : rf_Me} {pc : Nat} {L : List (Option Value)} {st : List Value} {M : rf_Mem} {r : Option Value} {M' : rf_Mem} (hd : decode y.2.1 pc = .ok (.return_, 1)) (hr : y.2.2.2.1 = none) : Ev Lay y pc L [] M none M := by
  intro p l e s m args below meth c D g ad A H locs ls C hP hD hS hl
  exact W.vret C.1 C.2.1 (C.2.2.1.trans hr) (fun t ht hW => ⟨⟨rfl, by rw [ht]; exact hP⟩, hS.F ht⟩) hS.2.2 hd C.2.2.2.1
/-- behind a call -/
theorem rf_callW {p : Program} {l : Launch} {e : Env} {R : Room} {s : State} {m : MethodId} {args : Array Value} {below : List Frame} {meth : Method} {c : Code} {H : Heap} {locs : List Loc} {Q : State → Prop} {pc : Nat} {ls : Array Slot} {st0 rest : List Value} {a : Array Value} {D : va_G} {g : rf_G} {ad : Nat → Nat} {A A1 : Nat → Prop} {Lay : List rf_Cell} {r1 : Option Value} {M1 : rf_Mem}
    (hr : va_Run p l e R s m args below meth c H locs 0 0 0 0 (F0 m pc ls st0) rest (rf_Q D g ad A1 Lay r1 M1 a) A1) (hS : va_S A s.heap H locs) (hA : ∀ q, A1 q → A q)
    (kk : ∀ (H1 : Heap) (locs1 : List Loc), va_P D vwCl (rf_W g ad M1 0 Lay) H1 → va_S A s.heap H1 locs1 → W p l e R s m args below meth c H1 locs1 0 0 Q (F0 m (pc + 3) ls ((r1.map (rf_cv ad)).toList ++ rest))) : W p l e R s m args below meth c H locs 0 0 Q (F0 m pc ls st0) := by
  intro T hT X
  obtain ⟨v, st₀, t, T', L, h0, X', hL, e1, e2, ⟨⟨hv, hp⟩, hz, hk⟩, st⟩ := hr T hT X
  cases hv
  rw [h0] at hz hk
  obtain ⟨t2, a1, b1⟩ := kk T'.heap (locs ++ L) (by rw [e1]; exact hp)
    ⟨Nat.le_trans hS.1 (by rw [e1]; exact hz), fun q h1 h2 => by rw [e1, hk q (Nat.lt_of_lt_of_le h1 hS.1) (fun z => h2 (hA q z))]; exact hS.2.1 q h1 h2, fun q hq => by
      rcases List.mem_append.mp hq with h | h
      · exact hS.2.2 q h
      · exact hA _ (hL q h)⟩ T' rfl X'
  exact ⟨t2, st t2 a1, b1⟩
/-- what a callee must be: n parameters beside the receiver -/
def rf_ce (y : rf_Me) (n : Nat) : Prop := plainName y.1.cls = true ∧ Cond.code y.1 y.2.1 y.2.2.1 y.2.2.2.1 ∈ wsL_law ∧ Cond.initialized y.1.cls ∈ wsL_law ∧ (y.1.cls ≠ "java/lang/invoke/MethodHandle" ∧ y.1.cls ≠ "java/lang/invoke/VarHandle" ∧ (parseMethodDescriptor y.1.desc).map (fun d => d.parameters.length) = some n) ∧ y.2.2.2.2.cells = 0 ∧ y.2.2.2.2.slots = 0
def rf_ceV (y : rf_Me) (n ci : Nat) : Prop := rf_ce y n ∧ Cond.instanceMethod y.1 ∈ wsL_law ∧ Cond.selects y.1.cls y.1 y.1 ∈ wsL_law ∧ ∃ q : vw_C, vwCl[ci]? = some q ∧ q.1 = y.1.cls
def rf_ceS (y : rf_Me) (n : Nat) : Prop := rf_ce y n ∧ Cond.static y.1 ∈ wsL_law
def rf_rm (y z : rf_Me) : Prop := z.2.2.2.2.frames + 1 ≤ y.2.2.2.2.frames ∧ 8 + (z.2.2.1 + 11) + z.2.2.2.2.locals ≤ y.2.2.2.2.locals
theorem rf_good {z : rf_Me} (h : Cond.code z.1 z.2.1 z.2.2.1 z.2.2.2.1 ∈ wsL_law) : GoodIn wsL_law (rf_ws z) := by
  intro w hw
  rcases List.mem_cons.mp hw with e | e
  · rw [e]; exact wsL_self _ h
  · exact wsL_self _ e
theorem rf_cat (ad : Nat → Nat) (st : List Value) : ((st.map (rf_cv ad)).map fun v => v.category).sum = (st.map fun v => v.category).sum := by
  rw [List.map_map]
  congr 1
  exact List.map_congr_left (fun v _ => rf_cv_cat ad v)
theorem rf_blind {D : va_G} {g : rf_G} {ad : Nat → Nat} {Lay : List rf_Cell} {M : rf_Mem} {sz : Nat} {av : List Value} : FrameBlind (rf_Pre D g ad Lay M sz av) := fun a U f mk q => by
  obtain ⟨q0, q1, qP, qK, qD, qX⟩ := q
  exact ⟨q0, q1, qP, va_K.moved (u := U) (U := U.calling f mk a) (Vm.Alike.refl U.vm) qK, qD, rf_X.same (u := U) (U := U.calling f mk a) rfl qX⟩
/-- the callee's start -/
theorem rf_start {y : rf_Me} {p : Program} {s : State} {m : MethodId} {args : Array Value} {meth : Method} {c : Code} {D : va_G} {g : rf_G} {ad : Nat → Nat} {A : Nat → Prop} {H : Heap} {locs : List Loc} {Lay : List rf_Cell} {M : rf_Mem} (C : rf_cx y p s m args meth c D g ad A) (hP : va_P D vwCl (rf_W g ad M 0 Lay) H) (hD : va_D A (rf_W g ad M 0 Lay)) (hS : va_S A s.heap H locs) (av : List Value) :
    (∀ q, va_A (rf_W g ad M 0 Lay) H.size q → A q) ∧ ∀ U : State, U.heap = H → s.WarmedH U.vm → rf_Pre D g ad Lay M H.size av (av.map (rf_cv ad)).toArray U := by
  have hA : ∀ q, va_A (rf_W g ad M 0 Lay) H.size q → A q := by
    intro q h
    rcases h with ⟨k, e, h⟩ | h
    · exact hD.2 k _ h
    · exact C.2.2.2.2.2.2.2.2.1 q (Nat.le_trans hS.1 h)
  refine ⟨hA, fun U hU hW => ⟨rfl, by rw [hU], by rw [hU]; exact hP, va_K.moved hW.alike C.2.2.2.2.2.2.2.1, hD.weaken (fun _ _ _ _ => trivial), ?_⟩⟩
  rw [hU]
  exact (((C.2.2.2.2.2.2.2.2.2).kept hS.2.1).narrow hA).warm hW
theorem ev_callV {Lay : List rf_Cell} {y : rf_Me} {pc : Nat} {L : List (Option Value)} {st : List Value} {M : rf_Mem} {r : Option Value} {M' : rf_Mem} {y' : rf_Me} {idx n ci q : Nat} {fl : List (Option Nat)} {stk : List Value} {r1 : Option Value} {M1 : rf_Mem} (av : List Value) (hd : decode y.2.1 pc = .ok (.invokevirtual idx, 3)) (hs : stk = av.reverse ++ .ref q :: st) (hc : rf_ceV y' n ci) (hw : Cond.methodLink y.1.cls idx y'.1 ∈ wsL_law) (hrm : rf_rm y y') (hq : Lay[q]? = some (.inl (ci, fl))) (hn : av.length = n) (hst : (st.map fun v => v.category).sum ≤ 8) (hent : (rf_sl (.ref q :: av)).length ≤ y'.2.2.1)
    (hb : Ev Lay y' 0 (rf_ent y'.2.2.1 (.ref q :: av)) [] M r1 M1) (h : Ev Lay y (pc + 3) L (r1.toList ++ st) M1 r M') : Ev Lay y pc L stk M r M' := by
  intro p l e s m args below meth c D g ad A H locs ls C hP hD hS hl
  obtain ⟨⟨g1, g2, g3, g4, g5, g6⟩, g7, g8, qc, g9, g10⟩ := hc
  have hts := C.2.2.2.2.2.2.1
  obtain ⟨hA, hst0⟩ := rf_start C hP hD hS (.ref q :: av)
  have hM := rf_met g1 hent hb l D g ad H.size
  have cw : CallW y.2.2.2.2 s args y.1.cls y'.1.cls idx y'.1 y'.2.1 y'.2.2.1 y'.2.2.2.1 (rf_ws y') y'.2.2.2.2 0 0 n := ⟨callB_of n hts (rf_good g2) rfl g5 g6 (hts _ g3) (hts _ hw) g4 hrm, hts _ g7, hts _ g8⟩
  have hrv : ∃ cellB : Cell, H[ad q]? = some cellB ∧ cellB.vm.isStatics = false ∧ s.vm.findClass y'.1.cls = some cellB.cls := by
    have e := va_recv C.2.2.2.2.2.2.2.1 hP (ci := ci) (q0 := q) g9 (rf_W0 g ad M hq)
    rw [← g10]
    exact e
  refine rf_callW (va_runV (As := av.map (rf_cv ad)) (rest := st.map (rf_cv ad)) ⟨C.1, C.2.1, C.2.2.2.2.1, C.2.2.2.2.2.1, hts⟩ hM cw ⟨rf_blind, hrv, hst0⟩ rfl (by rw [List.length_map]; exact hn) hl.1 (by rw [hs]; simp [List.map_reverse, rf_cv]) (lv_room (by rw [rf_cat]; exact hst)) hd ⟨by rw [Nat.zero_add]; exact Nat.zero_le _, by rw [Nat.zero_add]; exact Nat.zero_le _⟩) hS hA (fun H1 locs1 hP1 hS1 => ?_)
  have h9 := h p l e s m args below meth c D g ad A H1 locs1 ls C hP1 (rf_D hD) hS1 hl
  cases r1 with
  | none => exact h9
  | some v => exact h9
theorem ev_callS {Lay : List rf_Cell} {y : rf_Me} {pc : Nat} {L : List (Option Value)} {st : List Value} {M : rf_Mem} {r : Option Value} {M' : rf_Mem} {y' : rf_Me} {idx n : Nat} {stk : List Value} {r1 : Option Value} {M1 : rf_Mem} (av : List Value) (hd : decode y.2.1 pc = .ok (.invokestatic idx, 3)) (hs : stk = av.reverse ++ st) (hc : rf_ceS y' n) (hw : Cond.methodLink y.1.cls idx y'.1 ∈ wsL_law) (hrm : rf_rm y y') (hn : av.length = n) (hst : (st.map fun v => v.category).sum ≤ 8) (hent : (rf_sl av).length ≤ y'.2.2.1)
    (hb : Ev Lay y' 0 (rf_ent y'.2.2.1 av) [] M r1 M1) (h : Ev Lay y (pc + 3) L (r1.toList ++ st) M1 r M') : Ev Lay y pc L stk M r M' := by
  intro p l e s m args below meth c D g ad A H locs ls C hP hD hS hl
  obtain ⟨⟨g1, g2, g3, g4, g5, g6⟩, g7⟩ := hc
  have hts := C.2.2.2.2.2.2.1
  obtain ⟨hA, hst0⟩ := rf_start C hP hD hS av
  have hM := rf_met g1 hent hb l D g ad H.size
  have cw : CallB y.2.2.2.2 s args y.1.cls idx y'.1 y'.2.1 y'.2.2.1 y'.2.2.2.1 (rf_ws y') y'.2.2.2.2 0 0 n ∧ (Cond.static y'.1).before args s = true := ⟨callB_of n hts (rf_good g2) rfl g5 g6 (hts _ g3) (hts _ hw) g4 hrm, hts _ g7⟩
  refine rf_callW (va_runS (As := av.map (rf_cv ad)) (rest := st.map (rf_cv ad)) ⟨C.1, C.2.1, C.2.2.2.2.1, C.2.2.2.2.2.1, hts⟩ hM cw ⟨rf_blind, hst0⟩ rfl (by rw [List.length_map]; exact hn) hl.1 (by rw [hs]; simp [List.map_reverse]) (lv_room (by rw [rf_cat]; exact hst)) hd ⟨by rw [Nat.zero_add]; exact Nat.zero_le _, by rw [Nat.zero_add]; exact Nat.zero_le _⟩) hS hA (fun H1 locs1 hP1 hS1 => ?_)
  have h9 := h p l e s m args below meth c D g ad A H1 locs1 ls C hP1 (rf_D hD) hS1 hl
  cases r1 with
  | none => exact h9
  | some v => exact h9
/-- the nest's one call: has, out of Requests -/
theorem ev_callN {Lay : List rf_Cell} {y : rf_Me} {pc : Nat} {L : List (Option Value)} {st : List Value} {M : rf_Mem} {r : Option Value} {M' : rf_Mem} {y' : rf_Me} {n : Nat} {stk : List Value} {r1 : Option Value} {M1 : rf_Mem} (av : List Value) (hd : decode y.2.1 pc = .ok (.invokestatic 26, 3)) (hs : stk = av.reverse ++ st) (hc : rf_ceS y' n) (hy : y.1.cls = RX3) (hy' : y'.1 = yX6_has) (hrm : rf_rm y y') (hn : av.length = n) (hst : (st.map fun v => v.category).sum ≤ 8) (hent : (rf_sl av).length ≤ y'.2.2.1)
    (hb : Ev Lay y' 0 (rf_ent y'.2.2.1 av) [] M r1 M1) (h : Ev Lay y (pc + 3) L (r1.toList ++ st) M1 r M') : Ev Lay y pc L stk M r M' := by
  intro p l e s m args below meth c D g ad A H locs ls C hP hD hS hl
  obtain ⟨⟨g1, g2, g3, g4, g5, g6⟩, g7⟩ := hc
  have hts := C.2.2.2.2.2.2.1
  obtain ⟨hA, hst0⟩ := rf_start C hP hD hS av
  have hM := rf_met g1 hent hb l D g ad H.size
  have hN : va_Nw (.methodLinkNest RX3 26 y'.1 RX6) s := by rw [hy']; exact C.2.2.2.2.2.2.2.2.2.1
  have cw : va_CN y.2.2.2.2 s args RX3 26 y'.1 RX6 y'.2.1 y'.2.2.1 y'.2.2.2.1 (rf_ws y') y'.2.2.2.2 0 0 n ∧ (Cond.static y'.1).before args s = true ∧ True := ⟨va_cnB n hts (rf_good g2) rfl g5 g6 hN (hts _ g3) g4 hrm, hts _ g7, trivial⟩
  refine rf_callW (va_runSN (As := av.map (rf_cv ad)) (rest := st.map (rf_cv ad)) ⟨C.1, C.2.1, C.2.2.2.2.1, hy ▸ C.2.2.2.2.2.1, hts⟩ hM cw ⟨rf_blind, hst0⟩ rfl (by rw [List.length_map]; exact hn) hl.1 (by rw [hs]; simp [List.map_reverse]) (lv_room (by rw [rf_cat]; exact hst)) hd ⟨by rw [Nat.zero_add]; exact Nat.zero_le _, by rw [Nat.zero_add]; exact Nat.zero_le _⟩) hS hA (fun H1 locs1 hP1 hS1 => ?_)
  have h9 := h p l e s m args below meth c D g ad A H1 locs1 ls C hP1 (rf_D hD) hS1 hl
  cases r1 with
  | none => exact h9
  | some v => exact h9
theorem ev_tabI {Lay : List rf_Cell} {y : rf_Me} {pc : Nat} {L : List (Option Value)} {st : List Value} {M : rf_Mem} {r : Option Value} {M' : rf_Mem} {dflt lo hi off : Int} {offs : Array Int} {len : Nat} {x : Int32} (tgt : Nat) (hd : decode y.2.1 pc = .ok (.tableswitch dflt lo hi offs, len)) (h1 : ¬ x.toInt < lo) (h2 : ¬ hi < x.toInt) (ho : offs[(x.toInt - lo).toNat]? = some off) (ht : (pc : Int) + off = (tgt : Int)) (h : Ev Lay y tgt L st M r M') : Ev Lay y pc L (.int x :: st) M r M' := by
  intro p l e s m args below meth c D g ad A H locs ls C hP hD hS hl
  exact lv_tableIn C.1 C.2.1 hd h1 h2 ho ht (h p l e s m args below meth c D g ad A H locs ls C hP hD hS hl)
theorem ev_tabO {Lay : List rf_Cell} {y : rf_Me} {pc : Nat} {L : List (Option Value)} {st : List Value} {M : rf_Mem} {r : Option Value} {M' : rf_Mem} {dflt lo hi : Int} {offs : Array Int} {len : Nat} {x : Int32} (tgt : Nat) (hd : decode y.2.1 pc = .ok (.tableswitch dflt lo hi offs, len)) (h1 : x.toInt < lo ∨ hi < x.toInt) (ht : (pc : Int) + dflt = (tgt : Int)) (h : Ev Lay y tgt L st M r M') : Ev Lay y pc L (.int x :: st) M r M' := by
  intro p l e s m args below meth c D g ad A H locs ls C hP hD hS hl
  exact lv_tableOut C.1 C.2.1 hd h1 ht (h p l e s m args below meth c D g ad A H locs ls C hP hD hS hl)
theorem ev_look {Lay : List rf_Cell} {y : rf_Me} {pc : Nat} {L : List (Option Value)} {st : List Value} {M : rf_Mem} {r : Option Value} {M' : rf_Mem} {dflt off : Int} {ps : Array (Int × Int)} {len : Nat} {x : Int32} (tgt : Nat) (hd : decode y.2.1 pc = .ok (.lookupswitch dflt ps, len)) (hp : (ps.toList.zip (ps.toList.drop 1)).all (fun (a, next) => a.1 < next.1) = true) (ho : Op.lookupswitch.offset ps.toList dflt x.toInt = off) (ht : (pc : Int) + off = (tgt : Int)) (h : Ev Lay y tgt L st M r M') : Ev Lay y pc L (.int x :: st) M r M' := by
  intro p l e s m args below meth c D g ad A H locs ls C hP hD hS hl
  exact lv_lookup C.1 C.2.1 hd hp ho ht (h p l e s m args below meth c D g ad A H locs ls C hP hD hS hl)
end
section
theorem iw_1 : ∀ w ∈ wsL_law_r1, w ∈ wsL_law := fun _ h => List.mem_append_left _ (List.mem_append_left _ (List.mem_append_left _ (List.mem_append_left _ (List.mem_append_left _ (List.mem_append_left _ (List.mem_append_left _ (List.mem_append_left _ (List.mem_append_left _ (List.mem_append_left _ h)))))))))
theorem iw_2 : ∀ w ∈ wsL_law_r2, w ∈ wsL_law := fun _ h => List.mem_append_left _ (List.mem_append_left _ (List.mem_append_left _ (List.mem_append_left _ (List.mem_append_left _ (List.mem_append_left _ (List.mem_append_left _ (List.mem_append_left _ (List.mem_append_left _ (List.mem_append_right _ (List.mem_append_left _ h))))))))))
theorem iw_3 : ∀ w ∈ wsL_law_r3, w ∈ wsL_law := fun _ h => List.mem_append_left _ (List.mem_append_left _ (List.mem_append_left _ (List.mem_append_left _ (List.mem_append_left _ (List.mem_append_left _ (List.mem_append_left _ (List.mem_append_left _ (List.mem_append_left _ (List.mem_append_right _ (List.mem_append_right _ (List.mem_append_left _ h)))))))))))
theorem iw_4 : ∀ w ∈ wsL_law_r4, w ∈ wsL_law := fun _ h => List.mem_append_left _ (List.mem_append_left _ (List.mem_append_left _ (List.mem_append_left _ (List.mem_append_left _ (List.mem_append_left _ (List.mem_append_left _ (List.mem_append_left _ (List.mem_append_left _ (List.mem_append_right _ (List.mem_append_right _ (List.mem_append_right _ (List.mem_append_left _ h))))))))))))
theorem iw_5 : ∀ w ∈ wsL_law_r5, w ∈ wsL_law := fun _ h => List.mem_append_left _ (List.mem_append_left _ (List.mem_append_left _ (List.mem_append_left _ (List.mem_append_left _ (List.mem_append_left _ (List.mem_append_left _ (List.mem_append_left _ (List.mem_append_left _ (List.mem_append_right _ (List.mem_append_right _ (List.mem_append_right _ (List.mem_append_right _ (List.mem_append_left _ h)))))))))))))
theorem iw_6 : ∀ w ∈ wsL_law_r6, w ∈ wsL_law := fun _ h => List.mem_append_left _ (List.mem_append_left _ (List.mem_append_left _ (List.mem_append_left _ (List.mem_append_left _ (List.mem_append_left _ (List.mem_append_left _ (List.mem_append_left _ (List.mem_append_left _ (List.mem_append_right _ (List.mem_append_right _ (List.mem_append_right _ (List.mem_append_right _ (List.mem_append_right _ (List.mem_append_left _ h))))))))))))))
theorem iw_7 : ∀ w ∈ wsL_law_r7, w ∈ wsL_law := fun _ h => List.mem_append_left _ (List.mem_append_left _ (List.mem_append_left _ (List.mem_append_left _ (List.mem_append_left _ (List.mem_append_left _ (List.mem_append_left _ (List.mem_append_left _ (List.mem_append_left _ (List.mem_append_right _ (List.mem_append_right _ (List.mem_append_right _ (List.mem_append_right _ (List.mem_append_right _ (List.mem_append_right _ (List.mem_append_left _ h)))))))))))))))
theorem iw_8 : ∀ w ∈ wsL_law_r8, w ∈ wsL_law := fun _ h => List.mem_append_left _ (List.mem_append_left _ (List.mem_append_left _ (List.mem_append_left _ (List.mem_append_left _ (List.mem_append_left _ (List.mem_append_left _ (List.mem_append_left _ (List.mem_append_left _ (List.mem_append_right _ (List.mem_append_right _ (List.mem_append_right _ (List.mem_append_right _ (List.mem_append_right _ (List.mem_append_right _ (List.mem_append_right _ (List.mem_append_left _ h))))))))))))))))
theorem iw_9 : ∀ w ∈ wsL_law_r9, w ∈ wsL_law := fun _ h => List.mem_append_left _ (List.mem_append_left _ (List.mem_append_left _ (List.mem_append_left _ (List.mem_append_left _ (List.mem_append_left _ (List.mem_append_left _ (List.mem_append_left _ (List.mem_append_left _ (List.mem_append_right _ (List.mem_append_right _ (List.mem_append_right _ (List.mem_append_right _ (List.mem_append_right _ (List.mem_append_right _ (List.mem_append_right _ (List.mem_append_right _ (List.mem_append_left _ h)))))))))))))))))
theorem iw_10 : ∀ w ∈ wsL_law_r10, w ∈ wsL_law := fun _ h => List.mem_append_left _ (List.mem_append_left _ (List.mem_append_left _ (List.mem_append_left _ (List.mem_append_left _ (List.mem_append_left _ (List.mem_append_left _ (List.mem_append_left _ (List.mem_append_left _ (List.mem_append_right _ (List.mem_append_right _ (List.mem_append_right _ (List.mem_append_right _ (List.mem_append_right _ (List.mem_append_right _ (List.mem_append_right _ (List.mem_append_right _ (List.mem_append_right _ (List.mem_append_left _ h))))))))))))))))))
theorem iw_11 : ∀ w ∈ wsL_law_r11, w ∈ wsL_law := fun _ h => List.mem_append_left _ (List.mem_append_left _ (List.mem_append_left _ (List.mem_append_left _ (List.mem_append_left _ (List.mem_append_left _ (List.mem_append_left _ (List.mem_append_left _ (List.mem_append_left _ (List.mem_append_right _ (List.mem_append_right _ (List.mem_append_right _ (List.mem_append_right _ (List.mem_append_right _ (List.mem_append_right _ (List.mem_append_right _ (List.mem_append_right _ (List.mem_append_right _ (List.mem_append_right _ (List.mem_append_left _ h)))))))))))))))))))
theorem iw_12 : ∀ w ∈ wsL_law_r12, w ∈ wsL_law := fun _ h => List.mem_append_left _ (List.mem_append_left _ (List.mem_append_left _ (List.mem_append_left _ (List.mem_append_left _ (List.mem_append_left _ (List.mem_append_left _ (List.mem_append_left _ (List.mem_append_left _ (List.mem_append_right _ (List.mem_append_right _ (List.mem_append_right _ (List.mem_append_right _ (List.mem_append_right _ (List.mem_append_right _ (List.mem_append_right _ (List.mem_append_right _ (List.mem_append_right _ (List.mem_append_right _ (List.mem_append_right _ (List.mem_append_left _ h))))))))))))))))))))
theorem iw_13 : ∀ w ∈ wsL_law_r13, w ∈ wsL_law := fun _ h => List.mem_append_left _ (List.mem_append_left _ (List.mem_append_left _ (List.mem_append_left _ (List.mem_append_left _ (List.mem_append_left _ (List.mem_append_left _ (List.mem_append_left _ (List.mem_append_left _ (List.mem_append_right _ (List.mem_append_right _ (List.mem_append_right _ (List.mem_append_right _ (List.mem_append_right _ (List.mem_append_right _ (List.mem_append_right _ (List.mem_append_right _ (List.mem_append_right _ (List.mem_append_right _ (List.mem_append_right _ (List.mem_append_right _ (List.mem_append_left _ h)))))))))))))))))))))
theorem iw_14 : ∀ w ∈ wsL_law_r14, w ∈ wsL_law := fun _ h => List.mem_append_left _ (List.mem_append_left _ (List.mem_append_left _ (List.mem_append_left _ (List.mem_append_left _ (List.mem_append_left _ (List.mem_append_left _ (List.mem_append_left _ (List.mem_append_left _ (List.mem_append_right _ (List.mem_append_right _ (List.mem_append_right _ (List.mem_append_right _ (List.mem_append_right _ (List.mem_append_right _ (List.mem_append_right _ (List.mem_append_right _ (List.mem_append_right _ (List.mem_append_right _ (List.mem_append_right _ (List.mem_append_right _ (List.mem_append_right _ (List.mem_append_left _ h))))))))))))))))))))))
theorem iw_15 : ∀ w ∈ wsL_law_r15, w ∈ wsL_law := fun _ h => List.mem_append_left _ (List.mem_append_left _ (List.mem_append_left _ (List.mem_append_left _ (List.mem_append_left _ (List.mem_append_left _ (List.mem_append_left _ (List.mem_append_left _ (List.mem_append_left _ (List.mem_append_right _ (List.mem_append_right _ (List.mem_append_right _ (List.mem_append_right _ (List.mem_append_right _ (List.mem_append_right _ (List.mem_append_right _ (List.mem_append_right _ (List.mem_append_right _ (List.mem_append_right _ (List.mem_append_right _ (List.mem_append_right _ (List.mem_append_right _ (List.mem_append_right _ (List.mem_append_left _ h)))))))))))))))))))))))
theorem iw_16 : ∀ w ∈ wsL_law_r16, w ∈ wsL_law := fun _ h => List.mem_append_left _ (List.mem_append_left _ (List.mem_append_left _ (List.mem_append_left _ (List.mem_append_left _ (List.mem_append_left _ (List.mem_append_left _ (List.mem_append_left _ (List.mem_append_left _ (List.mem_append_right _ (List.mem_append_right _ (List.mem_append_right _ (List.mem_append_right _ (List.mem_append_right _ (List.mem_append_right _ (List.mem_append_right _ (List.mem_append_right _ (List.mem_append_right _ (List.mem_append_right _ (List.mem_append_right _ (List.mem_append_right _ (List.mem_append_right _ (List.mem_append_right _ (List.mem_append_right _ (List.mem_append_left _ h))))))))))))))))))))))))
theorem iw_17 : ∀ w ∈ wsL_law_r17, w ∈ wsL_law := fun _ h => List.mem_append_left _ (List.mem_append_left _ (List.mem_append_left _ (List.mem_append_left _ (List.mem_append_left _ (List.mem_append_left _ (List.mem_append_left _ (List.mem_append_left _ (List.mem_append_left _ (List.mem_append_right _ (List.mem_append_right _ (List.mem_append_right _ (List.mem_append_right _ (List.mem_append_right _ (List.mem_append_right _ (List.mem_append_right _ (List.mem_append_right _ (List.mem_append_right _ (List.mem_append_right _ (List.mem_append_right _ (List.mem_append_right _ (List.mem_append_right _ (List.mem_append_right _ (List.mem_append_right _ (List.mem_append_right _ (List.mem_append_left _ h)))))))))))))))))))))))))
theorem iw_18 : ∀ w ∈ wsL_law_r18, w ∈ wsL_law := fun _ h => List.mem_append_left _ (List.mem_append_left _ (List.mem_append_left _ (List.mem_append_left _ (List.mem_append_left _ (List.mem_append_left _ (List.mem_append_left _ (List.mem_append_left _ (List.mem_append_left _ (List.mem_append_right _ (List.mem_append_right _ (List.mem_append_right _ (List.mem_append_right _ (List.mem_append_right _ (List.mem_append_right _ (List.mem_append_right _ (List.mem_append_right _ (List.mem_append_right _ (List.mem_append_right _ (List.mem_append_right _ (List.mem_append_right _ (List.mem_append_right _ (List.mem_append_right _ (List.mem_append_right _ (List.mem_append_right _ (List.mem_append_right _ (List.mem_append_left _ h))))))))))))))))))))))))))
theorem iw_19 : ∀ w ∈ wsL_law_r19, w ∈ wsL_law := fun _ h => List.mem_append_left _ (List.mem_append_left _ (List.mem_append_left _ (List.mem_append_left _ (List.mem_append_left _ (List.mem_append_left _ (List.mem_append_left _ (List.mem_append_left _ (List.mem_append_left _ (List.mem_append_right _ (List.mem_append_right _ (List.mem_append_right _ (List.mem_append_right _ (List.mem_append_right _ (List.mem_append_right _ (List.mem_append_right _ (List.mem_append_right _ (List.mem_append_right _ (List.mem_append_right _ (List.mem_append_right _ (List.mem_append_right _ (List.mem_append_right _ (List.mem_append_right _ (List.mem_append_right _ (List.mem_append_right _ (List.mem_append_right _ (List.mem_append_right _ (List.mem_append_left _ h)))))))))))))))))))))))))))
theorem iw_20 : ∀ w ∈ wsL_law_r20, w ∈ wsL_law := fun _ h => List.mem_append_left _ (List.mem_append_left _ (List.mem_append_left _ (List.mem_append_left _ (List.mem_append_left _ (List.mem_append_left _ (List.mem_append_left _ (List.mem_append_left _ (List.mem_append_left _ (List.mem_append_right _ (List.mem_append_right _ (List.mem_append_right _ (List.mem_append_right _ (List.mem_append_right _ (List.mem_append_right _ (List.mem_append_right _ (List.mem_append_right _ (List.mem_append_right _ (List.mem_append_right _ (List.mem_append_right _ (List.mem_append_right _ (List.mem_append_right _ (List.mem_append_right _ (List.mem_append_right _ (List.mem_append_right _ (List.mem_append_right _ (List.mem_append_right _ (List.mem_append_right _ (List.mem_append_left _ h))))))))))))))))))))))))))))
theorem iw_21 : ∀ w ∈ wsL_law_r21, w ∈ wsL_law := fun _ h => List.mem_append_left _ (List.mem_append_left _ (List.mem_append_left _ (List.mem_append_left _ (List.mem_append_left _ (List.mem_append_left _ (List.mem_append_left _ (List.mem_append_left _ (List.mem_append_left _ (List.mem_append_right _ (List.mem_append_right _ (List.mem_append_right _ (List.mem_append_right _ (List.mem_append_right _ (List.mem_append_right _ (List.mem_append_right _ (List.mem_append_right _ (List.mem_append_right _ (List.mem_append_right _ (List.mem_append_right _ (List.mem_append_right _ (List.mem_append_right _ (List.mem_append_right _ (List.mem_append_right _ (List.mem_append_right _ (List.mem_append_right _ (List.mem_append_right _ (List.mem_append_right _ (List.mem_append_right _ (List.mem_append_left _ h)))))))))))))))))))))))))))))
theorem iw_22 : ∀ w ∈ wsL_law_r22, w ∈ wsL_law := fun _ h => List.mem_append_left _ (List.mem_append_left _ (List.mem_append_left _ (List.mem_append_left _ (List.mem_append_left _ (List.mem_append_left _ (List.mem_append_left _ (List.mem_append_left _ (List.mem_append_left _ (List.mem_append_right _ (List.mem_append_right _ (List.mem_append_right _ (List.mem_append_right _ (List.mem_append_right _ (List.mem_append_right _ (List.mem_append_right _ (List.mem_append_right _ (List.mem_append_right _ (List.mem_append_right _ (List.mem_append_right _ (List.mem_append_right _ (List.mem_append_right _ (List.mem_append_right _ (List.mem_append_right _ (List.mem_append_right _ (List.mem_append_right _ (List.mem_append_right _ (List.mem_append_right _ (List.mem_append_right _ (List.mem_append_right _ (List.mem_append_left _ h))))))))))))))))))))))))))))))
theorem iw_23 : ∀ w ∈ wsL_law_r23, w ∈ wsL_law := fun _ h => List.mem_append_left _ (List.mem_append_left _ (List.mem_append_left _ (List.mem_append_left _ (List.mem_append_left _ (List.mem_append_left _ (List.mem_append_left _ (List.mem_append_left _ (List.mem_append_left _ (List.mem_append_right _ (List.mem_append_right _ (List.mem_append_right _ (List.mem_append_right _ (List.mem_append_right _ (List.mem_append_right _ (List.mem_append_right _ (List.mem_append_right _ (List.mem_append_right _ (List.mem_append_right _ (List.mem_append_right _ (List.mem_append_right _ (List.mem_append_right _ (List.mem_append_right _ (List.mem_append_right _ (List.mem_append_right _ (List.mem_append_right _ (List.mem_append_right _ (List.mem_append_right _ (List.mem_append_right _ (List.mem_append_right _ (List.mem_append_right _ (List.mem_append_left _ h)))))))))))))))))))))))))))))))
theorem iw_24 : ∀ w ∈ wsL_law_r24, w ∈ wsL_law := fun _ h => List.mem_append_left _ (List.mem_append_left _ (List.mem_append_left _ (List.mem_append_left _ (List.mem_append_left _ (List.mem_append_left _ (List.mem_append_left _ (List.mem_append_left _ (List.mem_append_left _ (List.mem_append_right _ (List.mem_append_right _ (List.mem_append_right _ (List.mem_append_right _ (List.mem_append_right _ (List.mem_append_right _ (List.mem_append_right _ (List.mem_append_right _ (List.mem_append_right _ (List.mem_append_right _ (List.mem_append_right _ (List.mem_append_right _ (List.mem_append_right _ (List.mem_append_right _ (List.mem_append_right _ (List.mem_append_right _ (List.mem_append_right _ (List.mem_append_right _ (List.mem_append_right _ (List.mem_append_right _ (List.mem_append_right _ (List.mem_append_right _ (List.mem_append_right _ (List.mem_append_left _ h))))))))))))))))))))))))))))))))
theorem iw_25 : ∀ w ∈ wsL_law_r25, w ∈ wsL_law := fun _ h => List.mem_append_left _ (List.mem_append_left _ (List.mem_append_left _ (List.mem_append_left _ (List.mem_append_left _ (List.mem_append_left _ (List.mem_append_left _ (List.mem_append_left _ (List.mem_append_left _ (List.mem_append_right _ (List.mem_append_right _ (List.mem_append_right _ (List.mem_append_right _ (List.mem_append_right _ (List.mem_append_right _ (List.mem_append_right _ (List.mem_append_right _ (List.mem_append_right _ (List.mem_append_right _ (List.mem_append_right _ (List.mem_append_right _ (List.mem_append_right _ (List.mem_append_right _ (List.mem_append_right _ (List.mem_append_right _ (List.mem_append_right _ (List.mem_append_right _ (List.mem_append_right _ (List.mem_append_right _ (List.mem_append_right _ (List.mem_append_right _ (List.mem_append_right _ (List.mem_append_right _ (List.mem_append_left _ h)))))))))))))))))))))))))))))))))
theorem iw_26 : ∀ w ∈ wsL_law_r26, w ∈ wsL_law := fun _ h => List.mem_append_left _ (List.mem_append_left _ (List.mem_append_left _ (List.mem_append_left _ (List.mem_append_left _ (List.mem_append_left _ (List.mem_append_left _ (List.mem_append_left _ (List.mem_append_left _ (List.mem_append_right _ (List.mem_append_right _ (List.mem_append_right _ (List.mem_append_right _ (List.mem_append_right _ (List.mem_append_right _ (List.mem_append_right _ (List.mem_append_right _ (List.mem_append_right _ (List.mem_append_right _ (List.mem_append_right _ (List.mem_append_right _ (List.mem_append_right _ (List.mem_append_right _ (List.mem_append_right _ (List.mem_append_right _ (List.mem_append_right _ (List.mem_append_right _ (List.mem_append_right _ (List.mem_append_right _ (List.mem_append_right _ (List.mem_append_right _ (List.mem_append_right _ (List.mem_append_right _ (List.mem_append_right _ (List.mem_append_left _ h))))))))))))))))))))))))))))))))))
theorem iw_27 : ∀ w ∈ wsL_law_r27, w ∈ wsL_law := fun _ h => List.mem_append_left _ (List.mem_append_left _ (List.mem_append_left _ (List.mem_append_left _ (List.mem_append_left _ (List.mem_append_left _ (List.mem_append_left _ (List.mem_append_left _ (List.mem_append_left _ (List.mem_append_right _ (List.mem_append_right _ (List.mem_append_right _ (List.mem_append_right _ (List.mem_append_right _ (List.mem_append_right _ (List.mem_append_right _ (List.mem_append_right _ (List.mem_append_right _ (List.mem_append_right _ (List.mem_append_right _ (List.mem_append_right _ (List.mem_append_right _ (List.mem_append_right _ (List.mem_append_right _ (List.mem_append_right _ (List.mem_append_right _ (List.mem_append_right _ (List.mem_append_right _ (List.mem_append_right _ (List.mem_append_right _ (List.mem_append_right _ (List.mem_append_right _ (List.mem_append_right _ (List.mem_append_right _ (List.mem_append_right _ (List.mem_append_left _ h)))))))))))))))))))))))))))))))))))
theorem iw_28 : ∀ w ∈ wsL_law_r28, w ∈ wsL_law := fun _ h => List.mem_append_left _ (List.mem_append_left _ (List.mem_append_left _ (List.mem_append_left _ (List.mem_append_left _ (List.mem_append_left _ (List.mem_append_left _ (List.mem_append_left _ (List.mem_append_left _ (List.mem_append_right _ (List.mem_append_right _ (List.mem_append_right _ (List.mem_append_right _ (List.mem_append_right _ (List.mem_append_right _ (List.mem_append_right _ (List.mem_append_right _ (List.mem_append_right _ (List.mem_append_right _ (List.mem_append_right _ (List.mem_append_right _ (List.mem_append_right _ (List.mem_append_right _ (List.mem_append_right _ (List.mem_append_right _ (List.mem_append_right _ (List.mem_append_right _ (List.mem_append_right _ (List.mem_append_right _ (List.mem_append_right _ (List.mem_append_right _ (List.mem_append_right _ (List.mem_append_right _ (List.mem_append_right _ (List.mem_append_right _ (List.mem_append_right _ (List.mem_append_left _ h))))))))))))))))))))))))))))))))))))
theorem iw_29 : ∀ w ∈ wsL_law_r29, w ∈ wsL_law := fun _ h => List.mem_append_left _ (List.mem_append_left _ (List.mem_append_left _ (List.mem_append_left _ (List.mem_append_left _ (List.mem_append_left _ (List.mem_append_left _ (List.mem_append_left _ (List.mem_append_left _ (List.mem_append_right _ (List.mem_append_right _ (List.mem_append_right _ (List.mem_append_right _ (List.mem_append_right _ (List.mem_append_right _ (List.mem_append_right _ (List.mem_append_right _ (List.mem_append_right _ (List.mem_append_right _ (List.mem_append_right _ (List.mem_append_right _ (List.mem_append_right _ (List.mem_append_right _ (List.mem_append_right _ (List.mem_append_right _ (List.mem_append_right _ (List.mem_append_right _ (List.mem_append_right _ (List.mem_append_right _ (List.mem_append_right _ (List.mem_append_right _ (List.mem_append_right _ (List.mem_append_right _ (List.mem_append_right _ (List.mem_append_right _ (List.mem_append_right _ (List.mem_append_right _ (List.mem_append_left _ h)))))))))))))))))))))))))))))))))))))
theorem iw_30 : ∀ w ∈ wsL_law_r30, w ∈ wsL_law := fun _ h => List.mem_append_left _ (List.mem_append_left _ (List.mem_append_left _ (List.mem_append_left _ (List.mem_append_left _ (List.mem_append_left _ (List.mem_append_left _ (List.mem_append_left _ (List.mem_append_left _ (List.mem_append_right _ (List.mem_append_right _ (List.mem_append_right _ (List.mem_append_right _ (List.mem_append_right _ (List.mem_append_right _ (List.mem_append_right _ (List.mem_append_right _ (List.mem_append_right _ (List.mem_append_right _ (List.mem_append_right _ (List.mem_append_right _ (List.mem_append_right _ (List.mem_append_right _ (List.mem_append_right _ (List.mem_append_right _ (List.mem_append_right _ (List.mem_append_right _ (List.mem_append_right _ (List.mem_append_right _ (List.mem_append_right _ (List.mem_append_right _ (List.mem_append_right _ (List.mem_append_right _ (List.mem_append_right _ (List.mem_append_right _ (List.mem_append_right _ (List.mem_append_right _ (List.mem_append_right _ (List.mem_append_left _ h))))))))))))))))))))))))))))))))))))))
theorem iw_31 : ∀ w ∈ wsL_law_r31, w ∈ wsL_law := fun _ h => List.mem_append_left _ (List.mem_append_left _ (List.mem_append_left _ (List.mem_append_left _ (List.mem_append_left _ (List.mem_append_left _ (List.mem_append_left _ (List.mem_append_left _ (List.mem_append_left _ (List.mem_append_right _ (List.mem_append_right _ (List.mem_append_right _ (List.mem_append_right _ (List.mem_append_right _ (List.mem_append_right _ (List.mem_append_right _ (List.mem_append_right _ (List.mem_append_right _ (List.mem_append_right _ (List.mem_append_right _ (List.mem_append_right _ (List.mem_append_right _ (List.mem_append_right _ (List.mem_append_right _ (List.mem_append_right _ (List.mem_append_right _ (List.mem_append_right _ (List.mem_append_right _ (List.mem_append_right _ (List.mem_append_right _ (List.mem_append_right _ (List.mem_append_right _ (List.mem_append_right _ (List.mem_append_right _ (List.mem_append_right _ (List.mem_append_right _ (List.mem_append_right _ (List.mem_append_right _ (List.mem_append_right _ (List.mem_append_left _ h)))))))))))))))))))))))))))))))))))))))
theorem iw_32 : ∀ w ∈ wsL_law_r32, w ∈ wsL_law := fun _ h => List.mem_append_left _ (List.mem_append_left _ (List.mem_append_left _ (List.mem_append_left _ (List.mem_append_left _ (List.mem_append_left _ (List.mem_append_left _ (List.mem_append_left _ (List.mem_append_left _ (List.mem_append_right _ (List.mem_append_right _ (List.mem_append_right _ (List.mem_append_right _ (List.mem_append_right _ (List.mem_append_right _ (List.mem_append_right _ (List.mem_append_right _ (List.mem_append_right _ (List.mem_append_right _ (List.mem_append_right _ (List.mem_append_right _ (List.mem_append_right _ (List.mem_append_right _ (List.mem_append_right _ (List.mem_append_right _ (List.mem_append_right _ (List.mem_append_right _ (List.mem_append_right _ (List.mem_append_right _ (List.mem_append_right _ (List.mem_append_right _ (List.mem_append_right _ (List.mem_append_right _ (List.mem_append_right _ (List.mem_append_right _ (List.mem_append_right _ (List.mem_append_right _ (List.mem_append_right _ (List.mem_append_right _ (List.mem_append_right _ (List.mem_append_left _ h))))))))))))))))))))))))))))))))))))))))
theorem iw_33 : ∀ w ∈ wsL_law_r33, w ∈ wsL_law := fun _ h => List.mem_append_left _ (List.mem_append_left _ (List.mem_append_left _ (List.mem_append_left _ (List.mem_append_left _ (List.mem_append_left _ (List.mem_append_left _ (List.mem_append_left _ (List.mem_append_left _ (List.mem_append_right _ (List.mem_append_right _ (List.mem_append_right _ (List.mem_append_right _ (List.mem_append_right _ (List.mem_append_right _ (List.mem_append_right _ (List.mem_append_right _ (List.mem_append_right _ (List.mem_append_right _ (List.mem_append_right _ (List.mem_append_right _ (List.mem_append_right _ (List.mem_append_right _ (List.mem_append_right _ (List.mem_append_right _ (List.mem_append_right _ (List.mem_append_right _ (List.mem_append_right _ (List.mem_append_right _ (List.mem_append_right _ (List.mem_append_right _ (List.mem_append_right _ (List.mem_append_right _ (List.mem_append_right _ (List.mem_append_right _ (List.mem_append_right _ (List.mem_append_right _ (List.mem_append_right _ (List.mem_append_right _ (List.mem_append_right _ (List.mem_append_right _ (List.mem_append_left _ h)))))))))))))))))))))))))))))))))))))))))
theorem iw_34 : ∀ w ∈ wsL_law_r34, w ∈ wsL_law := fun _ h => List.mem_append_left _ (List.mem_append_left _ (List.mem_append_left _ (List.mem_append_left _ (List.mem_append_left _ (List.mem_append_left _ (List.mem_append_left _ (List.mem_append_left _ (List.mem_append_left _ (List.mem_append_right _ (List.mem_append_right _ (List.mem_append_right _ (List.mem_append_right _ (List.mem_append_right _ (List.mem_append_right _ (List.mem_append_right _ (List.mem_append_right _ (List.mem_append_right _ (List.mem_append_right _ (List.mem_append_right _ (List.mem_append_right _ (List.mem_append_right _ (List.mem_append_right _ (List.mem_append_right _ (List.mem_append_right _ (List.mem_append_right _ (List.mem_append_right _ (List.mem_append_right _ (List.mem_append_right _ (List.mem_append_right _ (List.mem_append_right _ (List.mem_append_right _ (List.mem_append_right _ (List.mem_append_right _ (List.mem_append_right _ (List.mem_append_right _ (List.mem_append_right _ (List.mem_append_right _ (List.mem_append_right _ (List.mem_append_right _ (List.mem_append_right _ (List.mem_append_right _ (List.mem_append_left _ h))))))))))))))))))))))))))))))))))))))))))
theorem iw_35 : ∀ w ∈ wsL_law_r35, w ∈ wsL_law := fun _ h => List.mem_append_left _ (List.mem_append_left _ (List.mem_append_left _ (List.mem_append_left _ (List.mem_append_left _ (List.mem_append_left _ (List.mem_append_left _ (List.mem_append_left _ (List.mem_append_left _ (List.mem_append_right _ (List.mem_append_right _ (List.mem_append_right _ (List.mem_append_right _ (List.mem_append_right _ (List.mem_append_right _ (List.mem_append_right _ (List.mem_append_right _ (List.mem_append_right _ (List.mem_append_right _ (List.mem_append_right _ (List.mem_append_right _ (List.mem_append_right _ (List.mem_append_right _ (List.mem_append_right _ (List.mem_append_right _ (List.mem_append_right _ (List.mem_append_right _ (List.mem_append_right _ (List.mem_append_right _ (List.mem_append_right _ (List.mem_append_right _ (List.mem_append_right _ (List.mem_append_right _ (List.mem_append_right _ (List.mem_append_right _ (List.mem_append_right _ (List.mem_append_right _ (List.mem_append_right _ (List.mem_append_right _ (List.mem_append_right _ (List.mem_append_right _ (List.mem_append_right _ (List.mem_append_right _ (List.mem_append_left _ h)))))))))))))))))))))))))))))))))))))))))))
theorem iw_36 : ∀ w ∈ wsL_law_r36, w ∈ wsL_law := fun _ h => List.mem_append_left _ (List.mem_append_left _ (List.mem_append_left _ (List.mem_append_left _ (List.mem_append_left _ (List.mem_append_left _ (List.mem_append_left _ (List.mem_append_left _ (List.mem_append_left _ (List.mem_append_right _ (List.mem_append_right _ (List.mem_append_right _ (List.mem_append_right _ (List.mem_append_right _ (List.mem_append_right _ (List.mem_append_right _ (List.mem_append_right _ (List.mem_append_right _ (List.mem_append_right _ (List.mem_append_right _ (List.mem_append_right _ (List.mem_append_right _ (List.mem_append_right _ (List.mem_append_right _ (List.mem_append_right _ (List.mem_append_right _ (List.mem_append_right _ (List.mem_append_right _ (List.mem_append_right _ (List.mem_append_right _ (List.mem_append_right _ (List.mem_append_right _ (List.mem_append_right _ (List.mem_append_right _ (List.mem_append_right _ (List.mem_append_right _ (List.mem_append_right _ (List.mem_append_right _ (List.mem_append_right _ (List.mem_append_right _ (List.mem_append_right _ (List.mem_append_right _ (List.mem_append_right _ (List.mem_append_right _ (List.mem_append_left _ h))))))))))))))))))))))))))))))))))))))))))))
theorem iw_37 : ∀ w ∈ wsL_law_r37, w ∈ wsL_law := fun _ h => List.mem_append_left _ (List.mem_append_left _ (List.mem_append_left _ (List.mem_append_left _ (List.mem_append_left _ (List.mem_append_left _ (List.mem_append_left _ (List.mem_append_left _ (List.mem_append_left _ (List.mem_append_right _ (List.mem_append_right _ (List.mem_append_right _ (List.mem_append_right _ (List.mem_append_right _ (List.mem_append_right _ (List.mem_append_right _ (List.mem_append_right _ (List.mem_append_right _ (List.mem_append_right _ (List.mem_append_right _ (List.mem_append_right _ (List.mem_append_right _ (List.mem_append_right _ (List.mem_append_right _ (List.mem_append_right _ (List.mem_append_right _ (List.mem_append_right _ (List.mem_append_right _ (List.mem_append_right _ (List.mem_append_right _ (List.mem_append_right _ (List.mem_append_right _ (List.mem_append_right _ (List.mem_append_right _ (List.mem_append_right _ (List.mem_append_right _ (List.mem_append_right _ (List.mem_append_right _ (List.mem_append_right _ (List.mem_append_right _ (List.mem_append_right _ (List.mem_append_right _ (List.mem_append_right _ (List.mem_append_right _ (List.mem_append_right _ (List.mem_append_left _ h)))))))))))))))))))))))))))))))))))))))))))))
theorem iw_38 : ∀ w ∈ wsL_law_r38, w ∈ wsL_law := fun _ h => List.mem_append_left _ (List.mem_append_left _ (List.mem_append_left _ (List.mem_append_left _ (List.mem_append_left _ (List.mem_append_left _ (List.mem_append_left _ (List.mem_append_left _ (List.mem_append_left _ (List.mem_append_right _ (List.mem_append_right _ (List.mem_append_right _ (List.mem_append_right _ (List.mem_append_right _ (List.mem_append_right _ (List.mem_append_right _ (List.mem_append_right _ (List.mem_append_right _ (List.mem_append_right _ (List.mem_append_right _ (List.mem_append_right _ (List.mem_append_right _ (List.mem_append_right _ (List.mem_append_right _ (List.mem_append_right _ (List.mem_append_right _ (List.mem_append_right _ (List.mem_append_right _ (List.mem_append_right _ (List.mem_append_right _ (List.mem_append_right _ (List.mem_append_right _ (List.mem_append_right _ (List.mem_append_right _ (List.mem_append_right _ (List.mem_append_right _ (List.mem_append_right _ (List.mem_append_right _ (List.mem_append_right _ (List.mem_append_right _ (List.mem_append_right _ (List.mem_append_right _ (List.mem_append_right _ (List.mem_append_right _ (List.mem_append_right _ (List.mem_append_right _ (List.mem_append_left _ h))))))))))))))))))))))))))))))))))))))))))))))
theorem iw_39 : ∀ w ∈ wsL_law_r39, w ∈ wsL_law := fun _ h => List.mem_append_left _ (List.mem_append_left _ (List.mem_append_left _ (List.mem_append_left _ (List.mem_append_left _ (List.mem_append_left _ (List.mem_append_left _ (List.mem_append_left _ (List.mem_append_left _ (List.mem_append_right _ (List.mem_append_right _ (List.mem_append_right _ (List.mem_append_right _ (List.mem_append_right _ (List.mem_append_right _ (List.mem_append_right _ (List.mem_append_right _ (List.mem_append_right _ (List.mem_append_right _ (List.mem_append_right _ (List.mem_append_right _ (List.mem_append_right _ (List.mem_append_right _ (List.mem_append_right _ (List.mem_append_right _ (List.mem_append_right _ (List.mem_append_right _ (List.mem_append_right _ (List.mem_append_right _ (List.mem_append_right _ (List.mem_append_right _ (List.mem_append_right _ (List.mem_append_right _ (List.mem_append_right _ (List.mem_append_right _ (List.mem_append_right _ (List.mem_append_right _ (List.mem_append_right _ (List.mem_append_right _ (List.mem_append_right _ (List.mem_append_right _ (List.mem_append_right _ (List.mem_append_right _ (List.mem_append_right _ (List.mem_append_right _ (List.mem_append_right _ (List.mem_append_right _ (List.mem_append_left _ h)))))))))))))))))))))))))))))))))))))))))))))))
theorem iw_40 : ∀ w ∈ wsL_law_r40, w ∈ wsL_law := fun _ h => List.mem_append_left _ (List.mem_append_left _ (List.mem_append_left _ (List.mem_append_left _ (List.mem_append_left _ (List.mem_append_left _ (List.mem_append_left _ (List.mem_append_left _ (List.mem_append_left _ (List.mem_append_right _ (List.mem_append_right _ (List.mem_append_right _ (List.mem_append_right _ (List.mem_append_right _ (List.mem_append_right _ (List.mem_append_right _ (List.mem_append_right _ (List.mem_append_right _ (List.mem_append_right _ (List.mem_append_right _ (List.mem_append_right _ (List.mem_append_right _ (List.mem_append_right _ (List.mem_append_right _ (List.mem_append_right _ (List.mem_append_right _ (List.mem_append_right _ (List.mem_append_right _ (List.mem_append_right _ (List.mem_append_right _ (List.mem_append_right _ (List.mem_append_right _ (List.mem_append_right _ (List.mem_append_right _ (List.mem_append_right _ (List.mem_append_right _ (List.mem_append_right _ (List.mem_append_right _ (List.mem_append_right _ (List.mem_append_right _ (List.mem_append_right _ (List.mem_append_right _ (List.mem_append_right _ (List.mem_append_right _ (List.mem_append_right _ (List.mem_append_right _ (List.mem_append_right _ (List.mem_append_right _ (List.mem_append_left _ h))))))))))))))))))))))))))))))))))))))))))))))))
theorem iw_41 : ∀ w ∈ wsL_law_r41, w ∈ wsL_law := fun _ h => List.mem_append_left _ (List.mem_append_left _ (List.mem_append_left _ (List.mem_append_left _ (List.mem_append_left _ (List.mem_append_left _ (List.mem_append_left _ (List.mem_append_left _ (List.mem_append_left _ (List.mem_append_right _ (List.mem_append_right _ (List.mem_append_right _ (List.mem_append_right _ (List.mem_append_right _ (List.mem_append_right _ (List.mem_append_right _ (List.mem_append_right _ (List.mem_append_right _ (List.mem_append_right _ (List.mem_append_right _ (List.mem_append_right _ (List.mem_append_right _ (List.mem_append_right _ (List.mem_append_right _ (List.mem_append_right _ (List.mem_append_right _ (List.mem_append_right _ (List.mem_append_right _ (List.mem_append_right _ (List.mem_append_right _ (List.mem_append_right _ (List.mem_append_right _ (List.mem_append_right _ (List.mem_append_right _ (List.mem_append_right _ (List.mem_append_right _ (List.mem_append_right _ (List.mem_append_right _ (List.mem_append_right _ (List.mem_append_right _ (List.mem_append_right _ (List.mem_append_right _ (List.mem_append_right _ (List.mem_append_right _ (List.mem_append_right _ (List.mem_append_right _ (List.mem_append_right _ (List.mem_append_right _ (List.mem_append_right _ (h)))))))))))))))))))))))))))))))))))))))))))))))))
abbrev mX0_clear : rf_Me := (yX0_clear, cX0_clear, 1, none, { frames := 0, cells := 0, slots := 0, locals := 0 })
abbrev mX0_addLine : rf_Me := (yX0_addLine, cX0_addLine, 5, none, { frames := 0, cells := 0, slots := 0, locals := 0 })
abbrev mX1_clear : rf_Me := (yX1_clear, cX1_clear, 1, none, { frames := 0, cells := 0, slots := 0, locals := 0 })
abbrev mX1_copyFrom : rf_Me := (yX1_copyFrom, cX1_copyFrom, 2, none, { frames := 1, cells := 0, slots := 0, locals := 30 })
abbrev mX1_addLine : rf_Me := (yX1_addLine, cX1_addLine, 3, none, { frames := 0, cells := 0, slots := 0, locals := 0 })
abbrev mX1_addReader : rf_Me := (yX1_addReader, cX1_addReader, 3, none, { frames := 0, cells := 0, slots := 0, locals := 0 })
abbrev mX1_tellError : rf_Me := (yX1_tellError, cX1_tellError, 2, none, { frames := 0, cells := 0, slots := 0, locals := 0 })
abbrev mX1_hasLine : rf_Me := (yX1_hasLine, cX1_hasLine, 2, (some .boolean), { frames := 0, cells := 0, slots := 0, locals := 0 })
abbrev mX1_hasReader : rf_Me := (yX1_hasReader, cX1_hasReader, 2, (some .boolean), { frames := 0, cells := 0, slots := 0, locals := 0 })
abbrev mX1_readersOfKind : rf_Me := (yX1_readersOfKind, cX1_readersOfKind, 4, (some .int), { frames := 0, cells := 0, slots := 0, locals := 0 })
abbrev mX2_add : rf_Me := (yX2_add, cX2_add, 4, none, { frames := 0, cells := 0, slots := 0, locals := 0 })
abbrev mX2_timesRead : rf_Me := (yX2_timesRead, cX2_timesRead, 4, (some .int), { frames := 0, cells := 0, slots := 0, locals := 0 })
abbrev mX2_copyFrom : rf_Me := (yX2_copyFrom, cX2_copyFrom, 2, none, { frames := 1, cells := 0, slots := 0, locals := 30 })
abbrev mX3_add : rf_Me := (yX3_add, cX3_add, 4, (some .int), { frames := 0, cells := 0, slots := 0, locals := 0 })
abbrev mX3_forLine : rf_Me := (yX3_forLine, cX3_forLine, 4, (some .int), { frames := 0, cells := 0, slots := 0, locals := 0 })
abbrev mX3_fulfil : rf_Me := (yX3_fulfil, cX3_fulfil, 6, (some .int), { frames := 3, cells := 0, slots := 0, locals := 67 })
abbrev mX4_append : rf_Me := (yX4_append, cX4_append, 2, none, { frames := 0, cells := 0, slots := 0, locals := 0 })
abbrev mX4_parseInto : rf_Me := (yX4_parseInto, cX4_parseInto, 3, none, { frames := 9, cells := 0, slots := 0, locals := 199 })
abbrev mX4_parseClause : rf_Me := (yX4_parseClause, cX4_parseClause, 4, none, { frames := 8, cells := 0, slots := 0, locals := 176 })
abbrev mX4_parseLine : rf_Me := (yX4_parseLine, cX4_parseLine, 5, none, { frames := 2, cells := 0, slots := 0, locals := 46 })
abbrev mX4_parseReader : rf_Me := (yX4_parseReader, cX4_parseReader, 5, none, { frames := 7, cells := 0, slots := 0, locals := 152 })
abbrev mX4_parseError : rf_Me := (yX4_parseError, cX4_parseError, 4, none, { frames := 2, cells := 0, slots := 0, locals := 46 })
abbrev mX4_takeKind : rf_Me := (yX4_takeKind, cX4_takeKind, 3, (some .int), { frames := 6, cells := 0, slots := 0, locals := 130 })
abbrev mX4_takeNumber : rf_Me := (yX4_takeNumber, cX4_takeNumber, 5, (some .int), { frames := 1, cells := 0, slots := 0, locals := 22 })
abbrev mX4_takeEnd : rf_Me := (yX4_takeEnd, cX4_takeEnd, 1, none, { frames := 1, cells := 0, slots := 0, locals := 22 })
abbrev mX4_skipBlanks : rf_Me := (yX4_skipBlanks, cX4_skipBlanks, 1, none, { frames := 0, cells := 0, slots := 0, locals := 0 })
abbrev mX4_wordEnd : rf_Me := (yX4_wordEnd, cX4_wordEnd, 2, (some .int), { frames := 0, cells := 0, slots := 0, locals := 0 })
abbrev mX4_spells : rf_Me := (yX4_spells, cX4_spells, 5, (some .boolean), { frames := 5, cells := 0, slots := 0, locals := 106 })
abbrev mX4_isFigure : rf_Me := (yX4_isFigure, cX4_isFigure, 1, (some .boolean), { frames := 0, cells := 0, slots := 0, locals := 0 })
abbrev mX4_fail : rf_Me := (yX4_fail, cX4_fail, 3, none, { frames := 0, cells := 0, slots := 0, locals := 0 })
abbrev mX5_open : rf_Me := (yX5_open, cX5_open, 2, none, { frames := 1, cells := 0, slots := 0, locals := 23 })
abbrev mX5_copyFrom : rf_Me := (yX5_copyFrom, cX5_copyFrom, 2, none, { frames := 2, cells := 0, slots := 0, locals := 51 })
abbrev mX5_copyBooks : rf_Me := (yX5_copyBooks, cX5_copyBooks, 2, none, { frames := 1, cells := 0, slots := 0, locals := 30 })
abbrev mX5_hasPage : rf_Me := (yX5_hasPage, cX5_hasPage, 2, (some .boolean), { frames := 0, cells := 0, slots := 0, locals := 0 })
abbrev mX5_isGone : rf_Me := (yX5_isGone, cX5_isGone, 2, (some .boolean), { frames := 0, cells := 0, slots := 0, locals := 0 })
abbrev mX5_isFull : rf_Me := (yX5_isFull, cX5_isFull, 1, (some .boolean), { frames := 0, cells := 0, slots := 0, locals := 0 })
abbrev mX5_heart : rf_Me := (yX5_heart, cX5_heart, 2, (some .int), { frames := 0, cells := 0, slots := 0, locals := 0 })
abbrev mX5_variantAt : rf_Me := (yX5_variantAt, cX5_variantAt, 5, (some .int), { frames := 2, cells := 0, slots := 0, locals := 43 })
abbrev mX5_variantKnown : rf_Me := (yX5_variantKnown, cX5_variantKnown, 3, (some .int), { frames := 3, cells := 0, slots := 0, locals := 67 })
abbrev mX5_knowsAny : rf_Me := (yX5_knowsAny, cX5_knowsAny, 3, (some .boolean), { frames := 4, cells := 0, slots := 0, locals := 89 })
abbrev mX5_dayLearnt : rf_Me := (yX5_dayLearnt, cX5_dayLearnt, 3, (some .int), { frames := 1, cells := 0, slots := 0, locals := 21 })
abbrev mX5_learn : rf_Me := (yX5_learn, cX5_learn, 4, none, { frames := 1, cells := 0, slots := 0, locals := 21 })
abbrev mX5_readPage : rf_Me := (yX5_readPage, cX5_readPage, 4, none, { frames := 2, cells := 0, slots := 0, locals := 44 })
abbrev mX5_addPage : rf_Me := (yX5_addPage, cX5_addPage, 5, (some .int), { frames := 1, cells := 0, slots := 0, locals := 21 })
abbrev mX5_draw : rf_Me := (yX5_draw, cX5_draw, 2, (some .int), { frames := 0, cells := 0, slots := 0, locals := 0 })
abbrev mX5_daysAhead : rf_Me := (yX5_daysAhead, cX5_daysAhead, 2, (some .int), { frames := 1, cells := 0, slots := 0, locals := 21 })
abbrev mX5_passDusks : rf_Me := (yX5_passDusks, cX5_passDusks, 2, none, { frames := 2, cells := 0, slots := 0, locals := 42 })
abbrev mX5_liveByDraws : rf_Me := (yX5_liveByDraws, cX5_liveByDraws, 6, none, { frames := 3, cells := 0, slots := 0, locals := 67 })
abbrev mX5_isKept : rf_Me := (yX5_isKept, cX5_isKept, 5, (some .boolean), { frames := 3, cells := 0, slots := 0, locals := 67 })
abbrev mX5_countKept : rf_Me := (yX5_countKept, cX5_countKept, 4, (some .int), { frames := 4, cells := 0, slots := 0, locals := 91 })
abbrev mX5_countGone : rf_Me := (yX5_countGone, cX5_countGone, 3, (some .int), { frames := 1, cells := 0, slots := 0, locals := 21 })
abbrev mX5_isLeft : rf_Me := (yX5_isLeft, cX5_isLeft, 3, (some .boolean), { frames := 0, cells := 0, slots := 0, locals := 0 })
abbrev mX5_pagesLeft : rf_Me := (yX5_pagesLeft, cX5_pagesLeft, 4, (some .int), { frames := 1, cells := 0, slots := 0, locals := 22 })
abbrev mX5_pagesLeftWith : rf_Me := (yX5_pagesLeftWith, cX5_pagesLeftWith, 5, (some .int), { frames := 1, cells := 0, slots := 0, locals := 22 })
abbrev mX5_truePages : rf_Me := (yX5_truePages, cX5_truePages, 2, (some .int), { frames := 2, cells := 0, slots := 0, locals := 46 })
abbrev mX5_trueReadingsLeft : rf_Me := (yX5_trueReadingsLeft, cX5_trueReadingsLeft, 4, (some .int), { frames := 1, cells := 0, slots := 0, locals := 22 })
abbrev mX5_firstPage : rf_Me := (yX5_firstPage, cX5_firstPage, 3, (some .int), { frames := 1, cells := 0, slots := 0, locals := 22 })
abbrev mX5_darkestPage : rf_Me := (yX5_darkestPage, cX5_darkestPage, 4, (some .int), { frames := 1, cells := 0, slots := 0, locals := 22 })
abbrev mX5_knowers : rf_Me := (yX5_knowers, cX5_knowers, 4, (some .int), { frames := 5, cells := 0, slots := 0, locals := 111 })
abbrev mX5_knowersOf : rf_Me := (yX5_knowersOf, cX5_knowersOf, 5, (some .int), { frames := 4, cells := 0, slots := 0, locals := 89 })
abbrev mX5_trueKnowers : rf_Me := (yX5_trueKnowers, cX5_trueKnowers, 2, (some .int), { frames := 5, cells := 0, slots := 0, locals := 113 })
abbrev mX5_linesKnown : rf_Me := (yX5_linesKnown, cX5_linesKnown, 4, (some .int), { frames := 5, cells := 0, slots := 0, locals := 111 })
abbrev mX5_voteOn : rf_Me := (yX5_voteOn, cX5_voteOn, 5, (some .int), { frames := 6, cells := 0, slots := 0, locals := 134 })
abbrev mX5_canBeCopied : rf_Me := (yX5_canBeCopied, cX5_canBeCopied, 7, (some .boolean), { frames := 0, cells := 0, slots := 0, locals := 0 })
abbrev mX5_firstWriter : rf_Me := (yX5_firstWriter, cX5_firstWriter, 4, (some .int), { frames := 0, cells := 0, slots := 0, locals := 0 })
abbrev mX6_feed : rf_Me := (yX6_feed, cX6_feed, 5, (some .int), { frames := 1, cells := 0, slots := 0, locals := 21 })
abbrev mX6_library : rf_Me := (yX6_library, cX6_library, 1, (some .int), { frames := 10, cells := 0, slots := 0, locals := 221 })
abbrev mX6_fault : rf_Me := (yX6_fault, cX6_fault, 1, (some .int), { frames := 0, cells := 0, slots := 0, locals := 0 })
abbrev mX6_told : rf_Me := (yX6_told, cX6_told, 2, (some .int), { frames := 5, cells := 0, slots := 0, locals := 114 })
abbrev mX6_line : rf_Me := (yX6_line, cX6_line, 3, (some .int), { frames := 7, cells := 0, slots := 0, locals := 158 })
abbrev mX6_reader : rf_Me := (yX6_reader, cX6_reader, 3, (some .int), { frames := 6, cells := 0, slots := 0, locals := 134 })
abbrev mX6_page : rf_Me := (yX6_page, cX6_page, 3, (some .int), { frames := 1, cells := 0, slots := 0, locals := 23 })
abbrev mX6_knows : rf_Me := (yX6_knows, cX6_knows, 4, (some .int), { frames := 5, cells := 0, slots := 0, locals := 111 })
abbrev mX6_reading : rf_Me := (yX6_reading, cX6_reading, 3, (some .int), { frames := 0, cells := 0, slots := 0, locals := 0 })
abbrev mX6_read : rf_Me := (yX6_read, cX6_read, 3, (some .int), { frames := 3, cells := 0, slots := 0, locals := 67 })
abbrev mX6_copy : rf_Me := (yX6_copy, cX6_copy, 3, (some .int), { frames := 3, cells := 0, slots := 0, locals := 67 })
abbrev mX6_write : rf_Me := (yX6_write, cX6_write, 3, (some .int), { frames := 5, cells := 0, slots := 0, locals := 111 })
abbrev mX6_teach : rf_Me := (yX6_teach, cX6_teach, 5, (some .int), { frames := 5, cells := 0, slots := 0, locals := 111 })
abbrev mX6_dusk : rf_Me := (yX6_dusk, cX6_dusk, 2, (some .int), { frames := 3, cells := 0, slots := 0, locals := 63 })
abbrev mX6_run : rf_Me := (yX6_run, cX6_run, 2, (some .int), { frames := 4, cells := 0, slots := 0, locals := 92 })
abbrev mX6_where : rf_Me := (yX6_where, cX6_where, 2, (some .int), { frames := 2, cells := 0, slots := 0, locals := 44 })
abbrev mX6_request : rf_Me := (yX6_request, cX6_request, 4, (some .int), { frames := 1, cells := 0, slots := 0, locals := 23 })
abbrev mX6_forget : rf_Me := (yX6_forget, cX6_forget, 2, (some .int), { frames := 0, cells := 0, slots := 0, locals := 0 })
abbrev mX6_grant : rf_Me := (yX6_grant, cX6_grant, 2, (some .int), { frames := 4, cells := 0, slots := 0, locals := 92 })
abbrev mX6_best : rf_Me := (yX6_best, cX6_best, 4, (some .int), { frames := 5, cells := 0, slots := 0, locals := 121 })
abbrev mX6_chooseFor : rf_Me := (yX6_chooseFor, cX6_chooseFor, 10, none, { frames := 4, cells := 0, slots := 0, locals := 92 })
abbrev mX6_toKnow : rf_Me := (yX6_toKnow, cX6_toKnow, 6, (some .int), { frames := 7, cells := 0, slots := 0, locals := 160 })
abbrev mX6_fewestToKnow : rf_Me := (yX6_fewestToKnow, cX6_fewestToKnow, 7, (some .int), { frames := 6, cells := 0, slots := 0, locals := 134 })
abbrev mX6_pagesAllow : rf_Me := (yX6_pagesAllow, cX6_pagesAllow, 4, (some .boolean), { frames := 3, cells := 0, slots := 0, locals := 67 })
abbrev mX6_life : rf_Me := (yX6_life, cX6_life, 7, (some .int), { frames := 1, cells := 0, slots := 0, locals := 23 })
abbrev mX6_right : rf_Me := (yX6_right, cX6_right, 5, (some .int), { frames := 1, cells := 0, slots := 0, locals := 23 })
abbrev mX6_claim : rf_Me := (yX6_claim, cX6_claim, 4, (some .int), { frames := 1, cells := 0, slots := 0, locals := 26 })
abbrev mX6_whence : rf_Me := (yX6_whence, cX6_whence, 3, (some .int), { frames := 1, cells := 0, slots := 0, locals := 23 })
abbrev mX6_span : rf_Me := (yX6_span, cX6_span, 9, (some .int), { frames := 5, cells := 0, slots := 0, locals := 114 })
abbrev mX6_note : rf_Me := (yX6_note, cX6_note, 2, (some .int), { frames := 0, cells := 0, slots := 0, locals := 0 })
abbrev mX6_tear : rf_Me := (yX6_tear, cX6_tear, 2, (some .int), { frames := 0, cells := 0, slots := 0, locals := 0 })
abbrev mX6_judge : rf_Me := (yX6_judge, cX6_judge, 2, (some .int), { frames := 5, cells := 0, slots := 0, locals := 114 })
abbrev mX6_seed : rf_Me := (yX6_seed, cX6_seed, 3, (some .int), { frames := 0, cells := 0, slots := 0, locals := 0 })
abbrev mX6_keep : rf_Me := (yX6_keep, cX6_keep, 2, (some .int), { frames := 3, cells := 0, slots := 0, locals := 72 })
abbrev mX6_goBack : rf_Me := (yX6_goBack, cX6_goBack, 2, (some .int), { frames := 3, cells := 0, slots := 0, locals := 72 })
abbrev mX6_has : rf_Me := (yX6_has, cX6_has, 2, (some .boolean), { frames := 0, cells := 0, slots := 0, locals := 0 })
abbrev mX6_isSetOf : rf_Me := (yX6_isSetOf, cX6_isSetOf, 2, (some .boolean), { frames := 0, cells := 0, slots := 0, locals := 0 })
abbrev mX7_in : rf_Me := (yX7_in, cX7_in, 6, (some .boolean), { frames := 0, cells := 0, slots := 0, locals := 0 })
abbrev mX7_one : rf_Me := (yX7_one, cX7_one, 1, (some .int), { frames := 0, cells := 0, slots := 0, locals := 0 })
abbrev mX7_has : rf_Me := (yX7_has, cX7_has, 2, (some .boolean), { frames := 0, cells := 0, slots := 0, locals := 0 })
abbrev mX7_ones : rf_Me := (yX7_ones, cX7_ones, 3, (some .int), { frames := 0, cells := 0, slots := 0, locals := 0 })
abbrev mX7_feed : rf_Me := (yX7_feed, cX7_feed, 5, (some .int), { frames := 1, cells := 0, slots := 0, locals := 25 })
abbrev mX7_here : rf_Me := (yX7_here, cX7_here, 1, (some .int), { frames := 0, cells := 0, slots := 0, locals := 0 })
abbrev mX7_want : rf_Me := (yX7_want, cX7_want, 4, (some .boolean), { frames := 0, cells := 0, slots := 0, locals := 0 })
abbrev mX7_takeWord : rf_Me := (yX7_takeWord, cX7_takeWord, 2, none, { frames := 1, cells := 0, slots := 0, locals := 25 })
abbrev mX7_isWord : rf_Me := (yX7_isWord, cX7_isWord, 11, (some .boolean), { frames := 0, cells := 0, slots := 0, locals := 0 })
abbrev mX7_takeNumber : rf_Me := (yX7_takeNumber, cX7_takeNumber, 6, (some .int), { frames := 1, cells := 0, slots := 0, locals := 25 })
abbrev mX7_kindHere : rf_Me := (yX7_kindHere, cX7_kindHere, 2, (some .int), { frames := 1, cells := 0, slots := 0, locals := 30 })
abbrev mX7_takeClause : rf_Me := (yX7_takeClause, cX7_takeClause, 2, none, { frames := 2, cells := 0, slots := 0, locals := 51 })
abbrev mX7_library : rf_Me := (yX7_library, cX7_library, 3, (some .int), { frames := 3, cells := 0, slots := 0, locals := 72 })
abbrev mX7_fault : rf_Me := (yX7_fault, cX7_fault, 1, (some .int), { frames := 0, cells := 0, slots := 0, locals := 0 })
abbrev mX7_isLine : rf_Me := (yX7_isLine, cX7_isLine, 2, (some .boolean), { frames := 1, cells := 0, slots := 0, locals := 25 })
abbrev mX7_isReader : rf_Me := (yX7_isReader, cX7_isReader, 2, (some .boolean), { frames := 1, cells := 0, slots := 0, locals := 25 })
abbrev mX7_isPage : rf_Me := (yX7_isPage, cX7_isPage, 2, (some .boolean), { frames := 1, cells := 0, slots := 0, locals := 25 })
abbrev mX7_copyRow : rf_Me := (yX7_copyRow, cX7_copyRow, 4, none, { frames := 0, cells := 0, slots := 0, locals := 0 })
abbrev mX7_isKeptLine : rf_Me := (yX7_isKeptLine, cX7_isKeptLine, 5, (some .boolean), { frames := 0, cells := 0, slots := 0, locals := 0 })
abbrev mX7_keptMany : rf_Me := (yX7_keptMany, cX7_keptMany, 4, (some .int), { frames := 1, cells := 0, slots := 0, locals := 24 })
abbrev mX7_told : rf_Me := (yX7_told, cX7_told, 2, (some .int), { frames := 2, cells := 0, slots := 0, locals := 47 })
abbrev mX7_pagesOf : rf_Me := (yX7_pagesOf, cX7_pagesOf, 4, (some .int), { frames := 1, cells := 0, slots := 0, locals := 20 })
abbrev mX7_knowers : rf_Me := (yX7_knowers, cX7_knowers, 4, (some .int), { frames := 1, cells := 0, slots := 0, locals := 20 })
abbrev mX7_votesFor : rf_Me := (yX7_votesFor, cX7_votesFor, 5, (some .int), { frames := 1, cells := 0, slots := 0, locals := 20 })
abbrev mX7_vote : rf_Me := (yX7_vote, cX7_vote, 5, (some .int), { frames := 2, cells := 0, slots := 0, locals := 44 })
abbrev mX7_line : rf_Me := (yX7_line, cX7_line, 3, (some .int), { frames := 3, cells := 0, slots := 0, locals := 68 })
abbrev mX7_knownBy : rf_Me := (yX7_knownBy, cX7_knownBy, 4, (some .int), { frames := 1, cells := 0, slots := 0, locals := 20 })
abbrev mX7_reader : rf_Me := (yX7_reader, cX7_reader, 3, (some .int), { frames := 2, cells := 0, slots := 0, locals := 46 })
abbrev mX7_readMany : rf_Me := (yX7_readMany, cX7_readMany, 4, (some .int), { frames := 1, cells := 0, slots := 0, locals := 20 })
abbrev mX7_page : rf_Me := (yX7_page, cX7_page, 3, (some .int), { frames := 2, cells := 0, slots := 0, locals := 46 })
abbrev mX7_knows : rf_Me := (yX7_knows, cX7_knows, 4, (some .int), { frames := 2, cells := 0, slots := 0, locals := 46 })
abbrev mX7_reading : rf_Me := (yX7_reading, cX7_reading, 3, (some .int), { frames := 1, cells := 0, slots := 0, locals := 25 })
abbrev mX7_know : rf_Me := (yX7_know, cX7_know, 5, none, { frames := 0, cells := 0, slots := 0, locals := 0 })
abbrev mX7_readPage : rf_Me := (yX7_readPage, cX7_readPage, 5, none, { frames := 1, cells := 0, slots := 0, locals := 24 })
abbrev mX7_read : rf_Me := (yX7_read, cX7_read, 3, (some .int), { frames := 2, cells := 0, slots := 0, locals := 48 })
abbrev mX7_draw : rf_Me := (yX7_draw, cX7_draw, 3, (some .int), { frames := 0, cells := 0, slots := 0, locals := 0 })
abbrev mX7_make : rf_Me := (yX7_make, cX7_make, 5, (some .int), { frames := 1, cells := 0, slots := 0, locals := 22 })
abbrev mX7_copy : rf_Me := (yX7_copy, cX7_copy, 3, (some .int), { frames := 2, cells := 0, slots := 0, locals := 48 })
abbrev mX7_write : rf_Me := (yX7_write, cX7_write, 4, (some .int), { frames := 2, cells := 0, slots := 0, locals := 46 })
abbrev mX7_teach : rf_Me := (yX7_teach, cX7_teach, 5, (some .int), { frames := 2, cells := 0, slots := 0, locals := 46 })
abbrev mX7_darken : rf_Me := (yX7_darken, cX7_darken, 5, none, { frames := 0, cells := 0, slots := 0, locals := 0 })
abbrev mX7_dusk : rf_Me := (yX7_dusk, cX7_dusk, 3, (some .int), { frames := 1, cells := 0, slots := 0, locals := 25 })
abbrev mX7_runDays : rf_Me := (yX7_runDays, cX7_runDays, 6, none, { frames := 2, cells := 0, slots := 0, locals := 48 })
abbrev mX7_run : rf_Me := (yX7_run, cX7_run, 4, (some .int), { frames := 3, cells := 0, slots := 0, locals := 73 })
abbrev mX7_where : rf_Me := (yX7_where, cX7_where, 3, (some .int), { frames := 2, cells := 0, slots := 0, locals := 46 })
abbrev mX7_request : rf_Me := (yX7_request, cX7_request, 4, (some .int), { frames := 2, cells := 0, slots := 0, locals := 46 })
abbrev mX7_forget : rf_Me := (yX7_forget, cX7_forget, 2, (some .int), { frames := 0, cells := 0, slots := 0, locals := 0 })
abbrev mX7_palest : rf_Me := (yX7_palest, cX7_palest, 5, (some .int), { frames := 0, cells := 0, slots := 0, locals := 0 })
abbrev mX7_grantAll : rf_Me := (yX7_grantAll, cX7_grantAll, 6, (some .int), { frames := 2, cells := 0, slots := 0, locals := 48 })
abbrev mX7_grant : rf_Me := (yX7_grant, cX7_grant, 2, (some .int), { frames := 3, cells := 0, slots := 0, locals := 73 })
abbrev mX7_sumBy : rf_Me := (yX7_sumBy, cX7_sumBy, 6, (some .int), { frames := 3, cells := 0, slots := 0, locals := 73 })
abbrev mX7_best : rf_Me := (yX7_best, cX7_best, 8, (some .int), { frames := 4, cells := 0, slots := 0, locals := 98 })
abbrev mX7_isTrue : rf_Me := (yX7_isTrue, cX7_isTrue, 3, (some .boolean), { frames := 0, cells := 0, slots := 0, locals := 0 })
abbrev mX7_lesser : rf_Me := (yX7_lesser, cX7_lesser, 3, (some .int), { frames := 0, cells := 0, slots := 0, locals := 0 })
abbrev mX7_fewest : rf_Me := (yX7_fewest, cX7_fewest, 11, (some .int), { frames := 1, cells := 0, slots := 0, locals := 22 })
abbrev mX7_toKnow : rf_Me := (yX7_toKnow, cX7_toKnow, 6, (some .int), { frames := 2, cells := 0, slots := 0, locals := 52 })
abbrev mX7_life : rf_Me := (yX7_life, cX7_life, 7, (some .int), { frames := 1, cells := 0, slots := 0, locals := 25 })
abbrev mX7_right : rf_Me := (yX7_right, cX7_right, 5, (some .int), { frames := 1, cells := 0, slots := 0, locals := 25 })
abbrev mX7_claim : rf_Me := (yX7_claim, cX7_claim, 9, (some .int), { frames := 2, cells := 0, slots := 0, locals := 46 })
abbrev mX7_whence : rf_Me := (yX7_whence, cX7_whence, 4, (some .int), { frames := 2, cells := 0, slots := 0, locals := 46 })
abbrev mX7_span : rf_Me := (yX7_span, cX7_span, 9, (some .int), { frames := 3, cells := 0, slots := 0, locals := 73 })
abbrev mX7_note : rf_Me := (yX7_note, cX7_note, 2, (some .int), { frames := 1, cells := 0, slots := 0, locals := 25 })
abbrev mX7_tear : rf_Me := (yX7_tear, cX7_tear, 2, (some .int), { frames := 0, cells := 0, slots := 0, locals := 0 })
abbrev mX7_judge : rf_Me := (yX7_judge, cX7_judge, 2, (some .int), { frames := 2, cells := 0, slots := 0, locals := 47 })
abbrev mX7_seed : rf_Me := (yX7_seed, cX7_seed, 3, (some .int), { frames := 0, cells := 0, slots := 0, locals := 0 })
abbrev mX7_keep : rf_Me := (yX7_keep, cX7_keep, 2, (some .int), { frames := 1, cells := 0, slots := 0, locals := 25 })
abbrev mX7_goBack : rf_Me := (yX7_goBack, cX7_goBack, 2, (some .int), { frames := 1, cells := 0, slots := 0, locals := 25 })
abbrev mJ6_bitCount_0f7a4 : rf_Me := (yJ6_bitCount_0f7a4, cJ6_bitCount_0f7a4, 1, (some .int), { frames := 0, cells := 0, slots := 0, locals := 0 })
abbrev mJ9_max_7cf53 : rf_Me := (yJ9_max_7cf53, cJ9_max_7cf53, 2, (some .int), { frames := 0, cells := 0, slots := 0, locals := 0 })
abbrev mJ9_min_7cf53 : rf_Me := (yJ9_min_7cf53, cJ9_min_7cf53, 2, (some .int), { frames := 0, cells := 0, slots := 0, locals := 0 })
abbrev mJ0_length_8abf5 : rf_Me := (yJ0_length_8abf5, cJ0_length_8abf5, 1, (some .int), { frames := 1, cells := 0, slots := 0, locals := 20 })
abbrev mJ0_charAt_5068e : rf_Me := (yJ0_charAt_5068e, cJ0_charAt_5068e, 2, (some .char), { frames := 4, cells := 0, slots := 0, locals := 85 })
abbrev mJ0_coder_7d493 : rf_Me := (yJ0_coder_7d493, cJ0_coder_7d493, 1, (some .byte), { frames := 0, cells := 0, slots := 0, locals := 0 })
abbrev mJ0_isLatin1_aae02 : rf_Me := (yJ0_isLatin1_aae02, cJ0_isLatin1_aae02, 1, (some .boolean), { frames := 0, cells := 0, slots := 0, locals := 0 })
abbrev mJ0_checkIndex_df160 : rf_Me := (yJ0_checkIndex_df160, cJ0_checkIndex_df160, 2, none, { frames := 1, cells := 0, slots := 0, locals := 22 })
abbrev mJ1_charAt_3b067 : rf_Me := (yJ1_charAt_3b067, cJ1_charAt_3b067, 2, (some .char), { frames := 2, cells := 0, slots := 0, locals := 43 })
abbrev mJ2_getChar_3b067 : rf_Me := (yJ2_getChar_3b067, cJ2_getChar_3b067, 2, (some .char), { frames := 1, cells := 0, slots := 0, locals := 20 })
abbrev mJ2_length_9d52b : rf_Me := (yJ2_length_9d52b, cJ2_length_9d52b, 1, (some .int), { frames := 0, cells := 0, slots := 0, locals := 0 })
abbrev mJ2_charAt_3b067 : rf_Me := (yJ2_charAt_3b067, cJ2_charAt_3b067, 2, (some .char), { frames := 3, cells := 0, slots := 0, locals := 64 })
abbrev mJ2_checkIndex_2214a : rf_Me := (yJ2_checkIndex_2214a, cJ2_checkIndex_2214a, 2, none, { frames := 2, cells := 0, slots := 0, locals := 43 })
abbrev mJ7_fill_53178 : rf_Me := (yJ7_fill_53178, cJ7_fill_53178, 4, none, { frames := 0, cells := 0, slots := 0, locals := 0 })
abbrev mJ3_checkIndex_8e157 : rf_Me := (yJ3_checkIndex_8e157, cJ3_checkIndex_8e157, 3, (some .int), { frames := 0, cells := 0, slots := 0, locals := 0 })
theorem fX0_7 : rf_fl RX0 7 0 0 := ⟨RX0, TX0, 3, rfl, by decide, iw_5 _ (List.mem_of_getElem? (i := 4) rfl), inlX0⟩
theorem pX0_7 : rf_fp RX0 7 0 0 .int := ⟨RX0, TX0, 3, tyX0, rfl, by decide, iw_5 _ (List.mem_of_getElem? (i := 4) rfl), inlX0, tyX0_ok, nmX0, rfl, rfl⟩
theorem fX0_13 : rf_fl RX0 13 0 1 := ⟨RX0, TX0, 3, rfl, by decide, iw_5 _ (List.mem_of_getElem? (i := 5) rfl), inlX0⟩
theorem pX0_13 : rf_fp RX0 13 0 1 .int := ⟨RX0, TX0, 3, tyX0, rfl, by decide, iw_5 _ (List.mem_of_getElem? (i := 5) rfl), inlX0, tyX0_ok, nmX0, rfl, rfl⟩
theorem fX0_16 : rf_fl RX0 16 0 2 := ⟨RX0, TX0, 3, rfl, by decide, iw_5 _ (List.mem_of_getElem? (i := 6) rfl), inlX0⟩
theorem pX0_16 : rf_fp RX0 16 0 2 .int := ⟨RX0, TX0, 3, tyX0, rfl, by decide, iw_5 _ (List.mem_of_getElem? (i := 6) rfl), inlX0, tyX0_ok, nmX0, rfl, rfl⟩
theorem fX1_9 : rf_fl RX1 9 1 0 := ⟨RX1, TX1, 8, rfl, by decide, iw_3 _ (List.mem_of_getElem? (i := 4) rfl), inlX1⟩
theorem fX1_15 : rf_fl RX1 15 1 1 := ⟨RX1, TX1, 8, rfl, by decide, iw_3 _ (List.mem_of_getElem? (i := 5) rfl), inlX1⟩
theorem fX1_18 : rf_fl RX1 18 1 2 := ⟨RX1, TX1, 8, rfl, by decide, iw_3 _ (List.mem_of_getElem? (i := 6) rfl), inlX1⟩
theorem fX1_21 : rf_fl RX1 21 1 3 := ⟨RX1, TX1, 8, rfl, by decide, iw_3 _ (List.mem_of_getElem? (i := 7) rfl), inlX1⟩
theorem fX1_24 : rf_fl RX1 24 1 4 := ⟨RX1, TX1, 8, rfl, by decide, iw_3 _ (List.mem_of_getElem? (i := 8) rfl), inlX1⟩
theorem pX1_24 : rf_fp RX1 24 1 4 .int := ⟨RX1, TX1, 8, tyX1, rfl, by decide, iw_3 _ (List.mem_of_getElem? (i := 8) rfl), inlX1, tyX1_ok, nmX1, rfl, rfl⟩
theorem fX1_28 : rf_fl RX1 28 1 5 := ⟨RX1, TX1, 8, rfl, by decide, iw_3 _ (List.mem_of_getElem? (i := 9) rfl), inlX1⟩
theorem pX1_28 : rf_fp RX1 28 1 5 .int := ⟨RX1, TX1, 8, tyX1, rfl, by decide, iw_3 _ (List.mem_of_getElem? (i := 9) rfl), inlX1, tyX1_ok, nmX1, rfl, rfl⟩
theorem fX1_31 : rf_fl RX1 31 1 6 := ⟨RX1, TX1, 8, rfl, by decide, iw_3 _ (List.mem_of_getElem? (i := 10) rfl), inlX1⟩
theorem pX1_31 : rf_fp RX1 31 1 6 .int := ⟨RX1, TX1, 8, tyX1, rfl, by decide, iw_3 _ (List.mem_of_getElem? (i := 10) rfl), inlX1, tyX1_ok, nmX1, rfl, rfl⟩
theorem fX1_34 : rf_fl RX1 34 1 7 := ⟨RX1, TX1, 8, rfl, by decide, iw_3 _ (List.mem_of_getElem? (i := 11) rfl), inlX1⟩
theorem pX1_34 : rf_fp RX1 34 1 7 .boolean := ⟨RX1, TX1, 8, tyX1, rfl, by decide, iw_3 _ (List.mem_of_getElem? (i := 11) rfl), inlX1, tyX1_ok, nmX1, rfl, rfl⟩
theorem fX2_9 : rf_fl RX2 9 2 0 := ⟨RX2, TX2, 4, rfl, by decide, iw_4 _ (List.mem_of_getElem? (i := 10) rfl), inlX2⟩
theorem fX2_15 : rf_fl RX2 15 2 1 := ⟨RX2, TX2, 4, rfl, by decide, iw_4 _ (List.mem_of_getElem? (i := 11) rfl), inlX2⟩
theorem fX2_18 : rf_fl RX2 18 2 2 := ⟨RX2, TX2, 4, rfl, by decide, iw_4 _ (List.mem_of_getElem? (i := 12) rfl), inlX2⟩
theorem fX2_21 : rf_fl RX2 21 2 3 := ⟨RX2, TX2, 4, rfl, by decide, iw_4 _ (List.mem_of_getElem? (i := 13) rfl), inlX2⟩
theorem pX2_21 : rf_fp RX2 21 2 3 .int := ⟨RX2, TX2, 4, tyX2, rfl, by decide, iw_4 _ (List.mem_of_getElem? (i := 13) rfl), inlX2, tyX2_ok, nmX2, rfl, rfl⟩
theorem fX3_9 : rf_fl RX3 9 3 0 := ⟨RX3, TX3, 4, rfl, by decide, iw_4 _ (List.mem_of_getElem? (i := 21) rfl), inlX3⟩
theorem fX3_15 : rf_fl RX3 15 3 1 := ⟨RX3, TX3, 4, rfl, by decide, iw_4 _ (List.mem_of_getElem? (i := 22) rfl), inlX3⟩
theorem fX3_18 : rf_fl RX3 18 3 2 := ⟨RX3, TX3, 4, rfl, by decide, iw_4 _ (List.mem_of_getElem? (i := 23) rfl), inlX3⟩
theorem fX3_21 : rf_fl RX3 21 3 3 := ⟨RX3, TX3, 4, rfl, by decide, iw_5 _ (List.mem_of_getElem? (i := 0) rfl), inlX3⟩
theorem pX3_21 : rf_fp RX3 21 3 3 .int := ⟨RX3, TX3, 4, tyX3, rfl, by decide, iw_5 _ (List.mem_of_getElem? (i := 0) rfl), inlX3, tyX3_ok, nmX3, rfl, rfl⟩
theorem fX4_9 : rf_fl RX4 9 4 0 := ⟨RX4, TX4, 5, rfl, by decide, iw_2 _ (List.mem_of_getElem? (i := 20) rfl), inlX4⟩
theorem fX4_15 : rf_fl RX4 15 4 1 := ⟨RX4, TX4, 5, rfl, by decide, iw_2 _ (List.mem_of_getElem? (i := 21) rfl), inlX4⟩
theorem pX4_15 : rf_fp RX4 15 4 1 .int := ⟨RX4, TX4, 5, tyX4, rfl, by decide, iw_2 _ (List.mem_of_getElem? (i := 21) rfl), inlX4, tyX4_ok, nmX4, rfl, rfl⟩
theorem fX4_19 : rf_fl RX4 19 4 2 := ⟨RX4, TX4, 5, rfl, by decide, iw_2 _ (List.mem_of_getElem? (i := 22) rfl), inlX4⟩
theorem pX4_19 : rf_fp RX4 19 4 2 .int := ⟨RX4, TX4, 5, tyX4, rfl, by decide, iw_2 _ (List.mem_of_getElem? (i := 22) rfl), inlX4, tyX4_ok, nmX4, rfl, rfl⟩
theorem pX4_22 : rf_fp RX4 22 4 3 .int := ⟨RX4, TX4, 5, tyX4, rfl, by decide, iw_2 _ (List.mem_of_getElem? (i := 23) rfl), inlX4, tyX4_ok, nmX4, rfl, rfl⟩
theorem fX4_25 : rf_fl RX4 25 4 4 := ⟨RX4, TX4, 5, rfl, by decide, iw_3 _ (List.mem_of_getElem? (i := 0) rfl), inlX4⟩
theorem pX4_25 : rf_fp RX4 25 4 4 .int := ⟨RX4, TX4, 5, tyX4, rfl, by decide, iw_3 _ (List.mem_of_getElem? (i := 0) rfl), inlX4, tyX4_ok, nmX4, rfl, rfl⟩
theorem fX4_68 : rf_fl RX4 68 1 4 := ⟨RX1, TX1, 8, rfl, by decide, iw_10 _ (List.mem_of_getElem? (i := 14) rfl), inlX1⟩
theorem fX4_81 : rf_fl RX4 81 1 5 := ⟨RX1, TX1, 8, rfl, by decide, iw_11 _ (List.mem_of_getElem? (i := 14) rfl), inlX1⟩
theorem fX4_90 : rf_fl RX4 90 1 7 := ⟨RX1, TX1, 8, rfl, by decide, iw_12 _ (List.mem_of_getElem? (i := 3) rfl), inlX1⟩
theorem fX5_12 : rf_fl RX5 12 5 1 := ⟨RX5, TX5, 12, rfl, by decide, iw_3 _ (List.mem_of_getElem? (i := 19) rfl), inlX5⟩
theorem fX5_18 : rf_fl RX5 18 5 2 := ⟨RX5, TX5, 12, rfl, by decide, iw_3 _ (List.mem_of_getElem? (i := 20) rfl), inlX5⟩
theorem fX5_22 : rf_fl RX5 22 5 3 := ⟨RX5, TX5, 12, rfl, by decide, iw_3 _ (List.mem_of_getElem? (i := 21) rfl), inlX5⟩
theorem fX5_25 : rf_fl RX5 25 5 4 := ⟨RX5, TX5, 12, rfl, by decide, iw_3 _ (List.mem_of_getElem? (i := 22) rfl), inlX5⟩
theorem fX5_28 : rf_fl RX5 28 5 5 := ⟨RX5, TX5, 12, rfl, by decide, iw_3 _ (List.mem_of_getElem? (i := 23) rfl), inlX5⟩
theorem fX5_31 : rf_fl RX5 31 5 6 := ⟨RX5, TX5, 12, rfl, by decide, iw_4 _ (List.mem_of_getElem? (i := 0) rfl), inlX5⟩
theorem fX5_34 : rf_fl RX5 34 5 7 := ⟨RX5, TX5, 12, rfl, by decide, iw_4 _ (List.mem_of_getElem? (i := 1) rfl), inlX5⟩
theorem fX5_37 : rf_fl RX5 37 5 8 := ⟨RX5, TX5, 12, rfl, by decide, iw_4 _ (List.mem_of_getElem? (i := 2) rfl), inlX5⟩
theorem fX5_40 : rf_fl RX5 40 5 9 := ⟨RX5, TX5, 12, rfl, by decide, iw_4 _ (List.mem_of_getElem? (i := 3) rfl), inlX5⟩
theorem pX5_40 : rf_fp RX5 40 5 9 .int := ⟨RX5, TX5, 12, tyX5, rfl, by decide, iw_4 _ (List.mem_of_getElem? (i := 3) rfl), inlX5, tyX5_ok, nmX5, rfl, rfl⟩
theorem fX5_44 : rf_fl RX5 44 5 10 := ⟨RX5, TX5, 12, rfl, by decide, iw_4 _ (List.mem_of_getElem? (i := 4) rfl), inlX5⟩
theorem pX5_44 : rf_fp RX5 44 5 10 .int := ⟨RX5, TX5, 12, tyX5, rfl, by decide, iw_4 _ (List.mem_of_getElem? (i := 4) rfl), inlX5, tyX5_ok, nmX5, rfl, rfl⟩
theorem fX5_47 : rf_fl RX5 47 5 11 := ⟨RX5, TX5, 12, rfl, by decide, iw_4 _ (List.mem_of_getElem? (i := 5) rfl), inlX5⟩
theorem pX5_47 : rf_fp RX5 47 5 11 .int := ⟨RX5, TX5, 12, tyX5, rfl, by decide, iw_4 _ (List.mem_of_getElem? (i := 5) rfl), inlX5, tyX5_ok, nmX5, rfl, rfl⟩
theorem fX5_50 : rf_fl RX5 50 5 0 := ⟨RX5, TX5, 12, rfl, by decide, iw_4 _ (List.mem_of_getElem? (i := 6) rfl), inlX5⟩
theorem fX5_60 : rf_fl RX5 60 1 4 := ⟨RX1, TX1, 8, rfl, by decide, iw_12 _ (List.mem_of_getElem? (i := 20) rfl), inlX1⟩
theorem fX5_65 : rf_fl RX5 65 1 1 := ⟨RX1, TX1, 8, rfl, by decide, iw_12 _ (List.mem_of_getElem? (i := 21) rfl), inlX1⟩
theorem fX5_68 : rf_fl RX5 68 2 3 := ⟨RX2, TX2, 4, rfl, by decide, iw_12 _ (List.mem_of_getElem? (i := 22) rfl), inlX2⟩
theorem pX5_68 : rf_fp RX5 68 2 3 .int := ⟨RX2, TX2, 4, tyX2, rfl, by decide, iw_12 _ (List.mem_of_getElem? (i := 22) rfl), inlX2, tyX2_ok, nmX2, rfl, rfl⟩
theorem fX5_89 : rf_fl RX5 89 1 3 := ⟨RX1, TX1, 8, rfl, by decide, iw_17 _ (List.mem_of_getElem? (i := 4) rfl), inlX1⟩
theorem fX5_106 : rf_fl RX5 106 1 2 := ⟨RX1, TX1, 8, rfl, by decide, iw_24 _ (List.mem_of_getElem? (i := 21) rfl), inlX1⟩
theorem fX5_112 : rf_fl RX5 112 1 5 := ⟨RX1, TX1, 8, rfl, by decide, iw_16 _ (List.mem_of_getElem? (i := 3) rfl), inlX1⟩
theorem fX5_124 : rf_fl RX5 124 1 6 := ⟨RX1, TX1, 8, rfl, by decide, iw_26 _ (List.mem_of_getElem? (i := 8) rfl), inlX1⟩
theorem fX5_183 : rf_fl RX5 183 2 1 := ⟨RX2, TX2, 4, rfl, by decide, iw_37 _ (List.mem_of_getElem? (i := 9) rfl), inlX2⟩
theorem fX5_185 : rf_fl RX5 185 2 0 := ⟨RX2, TX2, 4, rfl, by decide, iw_37 _ (List.mem_of_getElem? (i := 10) rfl), inlX2⟩
theorem fX5_188 : rf_fl RX5 188 2 2 := ⟨RX2, TX2, 4, rfl, by decide, iw_37 _ (List.mem_of_getElem? (i := 11) rfl), inlX2⟩
theorem fX6_10 : rf_fl RX6 10 6 0 := ⟨RX6, TX6, 12, rfl, by decide, iw_1 _ (List.mem_of_getElem? (i := 16) rfl), inlX6⟩
theorem fX6_19 : rf_fl RX6 19 6 1 := ⟨RX6, TX6, 12, rfl, by decide, iw_1 _ (List.mem_of_getElem? (i := 20) rfl), inlX6⟩
theorem fX6_23 : rf_fl RX6 23 6 2 := ⟨RX6, TX6, 12, rfl, by decide, iw_1 _ (List.mem_of_getElem? (i := 21) rfl), inlX6⟩
theorem fX6_31 : rf_fl RX6 31 6 3 := ⟨RX6, TX6, 12, rfl, by decide, iw_2 _ (List.mem_of_getElem? (i := 1) rfl), inlX6⟩
theorem fX6_35 : rf_fl RX6 35 6 4 := ⟨RX6, TX6, 12, rfl, by decide, iw_2 _ (List.mem_of_getElem? (i := 2) rfl), inlX6⟩
theorem fX6_38 : rf_fl RX6 38 6 5 := ⟨RX6, TX6, 12, rfl, by decide, iw_2 _ (List.mem_of_getElem? (i := 3) rfl), inlX6⟩
theorem fX6_42 : rf_fl RX6 42 6 6 := ⟨RX6, TX6, 12, rfl, by decide, iw_2 _ (List.mem_of_getElem? (i := 4) rfl), inlX6⟩
theorem pX6_42 : rf_fp RX6 42 6 6 .int := ⟨RX6, TX6, 12, tyX6, rfl, by decide, iw_2 _ (List.mem_of_getElem? (i := 4) rfl), inlX6, tyX6_ok, nmX6, rfl, rfl⟩
theorem fX6_49 : rf_fl RX6 49 6 7 := ⟨RX6, TX6, 12, rfl, by decide, iw_2 _ (List.mem_of_getElem? (i := 8) rfl), inlX6⟩
theorem fX6_56 : rf_fl RX6 56 6 8 := ⟨RX6, TX6, 12, rfl, by decide, iw_2 _ (List.mem_of_getElem? (i := 12) rfl), inlX6⟩
theorem fX6_60 : rf_fl RX6 60 6 9 := ⟨RX6, TX6, 12, rfl, by decide, iw_2 _ (List.mem_of_getElem? (i := 14) rfl), inlX6⟩
theorem fX6_64 : rf_fl RX6 64 6 10 := ⟨RX6, TX6, 12, rfl, by decide, iw_2 _ (List.mem_of_getElem? (i := 15) rfl), inlX6⟩
theorem pX6_64 : rf_fp RX6 64 6 10 .int := ⟨RX6, TX6, 12, tyX6, rfl, by decide, iw_2 _ (List.mem_of_getElem? (i := 15) rfl), inlX6, tyX6_ok, nmX6, rfl, rfl⟩
theorem fX6_67 : rf_fl RX6 67 6 11 := ⟨RX6, TX6, 12, rfl, by decide, iw_2 _ (List.mem_of_getElem? (i := 16) rfl), inlX6⟩
theorem fX6_71 : rf_fl RX6 71 4 1 := ⟨RX4, TX4, 5, rfl, by decide, iw_6 _ (List.mem_of_getElem? (i := 8) rfl), inlX4⟩
theorem pX6_71 : rf_fp RX6 71 4 1 .int := ⟨RX4, TX4, 5, tyX4, rfl, by decide, iw_6 _ (List.mem_of_getElem? (i := 8) rfl), inlX4, tyX4_ok, nmX4, rfl, rfl⟩
theorem fX6_82 : rf_fl RX6 82 4 2 := ⟨RX4, TX4, 5, rfl, by decide, iw_7 _ (List.mem_of_getElem? (i := 6) rfl), inlX4⟩
theorem fX6_91 : rf_fl RX6 91 3 3 := ⟨RX3, TX3, 4, rfl, by decide, iw_7 _ (List.mem_of_getElem? (i := 7) rfl), inlX3⟩
theorem pX6_91 : rf_fp RX6 91 3 3 .int := ⟨RX3, TX3, 4, tyX3, rfl, by decide, iw_7 _ (List.mem_of_getElem? (i := 7) rfl), inlX3, tyX3_ok, nmX3, rfl, rfl⟩
theorem fX6_94 : rf_fl RX6 94 1 4 := ⟨RX1, TX1, 8, rfl, by decide, iw_7 _ (List.mem_of_getElem? (i := 8) rfl), inlX1⟩
theorem fX6_97 : rf_fl RX6 97 4 3 := ⟨RX4, TX4, 5, rfl, by decide, iw_15 _ (List.mem_of_getElem? (i := 4) rfl), inlX4⟩
theorem fX6_100 : rf_fl RX6 100 1 5 := ⟨RX1, TX1, 8, rfl, by decide, iw_15 _ (List.mem_of_getElem? (i := 13) rfl), inlX1⟩
theorem fX6_103 : rf_fl RX6 103 5 9 := ⟨RX5, TX5, 12, rfl, by decide, iw_15 _ (List.mem_of_getElem? (i := 14) rfl), inlX5⟩
theorem fX6_106 : rf_fl RX6 106 5 1 := ⟨RX5, TX5, 12, rfl, by decide, iw_15 _ (List.mem_of_getElem? (i := 15) rfl), inlX5⟩
theorem fX6_110 : rf_fl RX6 110 2 3 := ⟨RX2, TX2, 4, rfl, by decide, iw_15 _ (List.mem_of_getElem? (i := 16) rfl), inlX2⟩
theorem fX6_113 : rf_fl RX6 113 5 10 := ⟨RX5, TX5, 12, rfl, by decide, iw_15 _ (List.mem_of_getElem? (i := 17) rfl), inlX5⟩
theorem fX6_116 : rf_fl RX6 116 1 6 := ⟨RX1, TX1, 8, rfl, by decide, iw_15 _ (List.mem_of_getElem? (i := 18) rfl), inlX1⟩
theorem fX6_128 : rf_fl RX6 128 1 0 := ⟨RX1, TX1, 8, rfl, by decide, iw_18 _ (List.mem_of_getElem? (i := 8) rfl), inlX1⟩
theorem fX6_144 : rf_fl RX6 144 5 8 := ⟨RX5, TX5, 12, rfl, by decide, iw_18 _ (List.mem_of_getElem? (i := 9) rfl), inlX5⟩
theorem fX6_150 : rf_fl RX6 150 1 2 := ⟨RX1, TX1, 8, rfl, by decide, iw_21 _ (List.mem_of_getElem? (i := 8) rfl), inlX1⟩
theorem fX6_153 : rf_fl RX6 153 1 3 := ⟨RX1, TX1, 8, rfl, by decide, iw_21 _ (List.mem_of_getElem? (i := 9) rfl), inlX1⟩
theorem fX6_162 : rf_fl RX6 162 5 2 := ⟨RX5, TX5, 12, rfl, by decide, iw_22 _ (List.mem_of_getElem? (i := 10) rfl), inlX5⟩
theorem fX6_165 : rf_fl RX6 165 5 3 := ⟨RX5, TX5, 12, rfl, by decide, iw_22 _ (List.mem_of_getElem? (i := 11) rfl), inlX5⟩
theorem fX6_168 : rf_fl RX6 168 5 4 := ⟨RX5, TX5, 12, rfl, by decide, iw_22 _ (List.mem_of_getElem? (i := 12) rfl), inlX5⟩
theorem fX6_184 : rf_fl RX6 184 2 0 := ⟨RX2, TX2, 4, rfl, by decide, iw_24 _ (List.mem_of_getElem? (i := 0) rfl), inlX2⟩
theorem fX6_187 : rf_fl RX6 187 2 1 := ⟨RX2, TX2, 4, rfl, by decide, iw_24 _ (List.mem_of_getElem? (i := 1) rfl), inlX2⟩
theorem fX6_189 : rf_fl RX6 189 2 2 := ⟨RX2, TX2, 4, rfl, by decide, iw_24 _ (List.mem_of_getElem? (i := 2) rfl), inlX2⟩
theorem fX6_240 : rf_fl RX6 240 0 0 := ⟨RX0, TX0, 3, rfl, by decide, iw_32 _ (List.mem_of_getElem? (i := 19) rfl), inlX0⟩
theorem fX6_243 : rf_fl RX6 243 0 1 := ⟨RX0, TX0, 3, rfl, by decide, iw_32 _ (List.mem_of_getElem? (i := 20) rfl), inlX0⟩
theorem fX6_246 : rf_fl RX6 246 0 2 := ⟨RX0, TX0, 3, rfl, by decide, iw_32 _ (List.mem_of_getElem? (i := 21) rfl), inlX0⟩
theorem fX6_301 : rf_fl RX6 301 5 11 := ⟨RX5, TX5, 12, rfl, by decide, iw_38 _ (List.mem_of_getElem? (i := 9) rfl), inlX5⟩
theorem pX6_301 : rf_fp RX6 301 5 11 .int := ⟨RX5, TX5, 12, tyX5, rfl, by decide, iw_38 _ (List.mem_of_getElem? (i := 9) rfl), inlX5, tyX5_ok, nmX5, rfl, rfl⟩
theorem fX7_7 : rf_fl RX7 7 7 0 := ⟨RX7, TX7, 25, rfl, by decide, iw_5 _ (List.mem_of_getElem? (i := 11) rfl), inlX7⟩
theorem fX7_13 : rf_fl RX7 13 7 1 := ⟨RX7, TX7, 25, rfl, by decide, iw_5 _ (List.mem_of_getElem? (i := 13) rfl), inlX7⟩
theorem fX7_17 : rf_fl RX7 17 7 2 := ⟨RX7, TX7, 25, rfl, by decide, iw_5 _ (List.mem_of_getElem? (i := 14) rfl), inlX7⟩
theorem fX7_20 : rf_fl RX7 20 7 3 := ⟨RX7, TX7, 25, rfl, by decide, iw_5 _ (List.mem_of_getElem? (i := 15) rfl), inlX7⟩
theorem fX7_23 : rf_fl RX7 23 7 4 := ⟨RX7, TX7, 25, rfl, by decide, iw_5 _ (List.mem_of_getElem? (i := 16) rfl), inlX7⟩
theorem fX7_26 : rf_fl RX7 26 7 5 := ⟨RX7, TX7, 25, rfl, by decide, iw_5 _ (List.mem_of_getElem? (i := 17) rfl), inlX7⟩
theorem fX7_29 : rf_fl RX7 29 7 6 := ⟨RX7, TX7, 25, rfl, by decide, iw_5 _ (List.mem_of_getElem? (i := 18) rfl), inlX7⟩
theorem fX7_32 : rf_fl RX7 32 7 7 := ⟨RX7, TX7, 25, rfl, by decide, iw_5 _ (List.mem_of_getElem? (i := 19) rfl), inlX7⟩
theorem pX7_32 : rf_fp RX7 32 7 7 .int := ⟨RX7, TX7, 25, tyX7, rfl, by decide, iw_5 _ (List.mem_of_getElem? (i := 19) rfl), inlX7, tyX7_ok, nmX7, rfl, rfl⟩
theorem fX7_36 : rf_fl RX7 36 7 10 := ⟨RX7, TX7, 25, rfl, by decide, iw_5 _ (List.mem_of_getElem? (i := 20) rfl), inlX7⟩
theorem fX7_39 : rf_fl RX7 39 7 16 := ⟨RX7, TX7, 25, rfl, by decide, iw_5 _ (List.mem_of_getElem? (i := 21) rfl), inlX7⟩
theorem pX7_39 : rf_fp RX7 39 7 16 .int := ⟨RX7, TX7, 25, tyX7, rfl, by decide, iw_5 _ (List.mem_of_getElem? (i := 21) rfl), inlX7, tyX7_ok, nmX7, rfl, rfl⟩
theorem fX7_42 : rf_fl RX7 42 7 18 := ⟨RX7, TX7, 25, rfl, by decide, iw_5 _ (List.mem_of_getElem? (i := 22) rfl), inlX7⟩
theorem fX7_45 : rf_fl RX7 45 7 19 := ⟨RX7, TX7, 25, rfl, by decide, iw_5 _ (List.mem_of_getElem? (i := 23) rfl), inlX7⟩
theorem fX7_48 : rf_fl RX7 48 7 20 := ⟨RX7, TX7, 25, rfl, by decide, iw_6 _ (List.mem_of_getElem? (i := 0) rfl), inlX7⟩
theorem fX7_51 : rf_fl RX7 51 7 22 := ⟨RX7, TX7, 25, rfl, by decide, iw_6 _ (List.mem_of_getElem? (i := 1) rfl), inlX7⟩
theorem fX7_54 : rf_fl RX7 54 7 23 := ⟨RX7, TX7, 25, rfl, by decide, iw_6 _ (List.mem_of_getElem? (i := 2) rfl), inlX7⟩
theorem fX7_64 : rf_fl RX7 64 7 11 := ⟨RX7, TX7, 25, rfl, by decide, iw_6 _ (List.mem_of_getElem? (i := 20) rfl), inlX7⟩
theorem pX7_64 : rf_fp RX7 64 7 11 .int := ⟨RX7, TX7, 25, tyX7, rfl, by decide, iw_6 _ (List.mem_of_getElem? (i := 20) rfl), inlX7, tyX7_ok, nmX7, rfl, rfl⟩
theorem fX7_70 : rf_fl RX7 70 7 12 := ⟨RX7, TX7, 25, rfl, by decide, iw_13 _ (List.mem_of_getElem? (i := 3) rfl), inlX7⟩
theorem pX7_70 : rf_fp RX7 70 7 12 .int := ⟨RX7, TX7, 25, tyX7, rfl, by decide, iw_13 _ (List.mem_of_getElem? (i := 3) rfl), inlX7, tyX7_ok, nmX7, rfl, rfl⟩
theorem fX7_73 : rf_fl RX7 73 7 15 := ⟨RX7, TX7, 25, rfl, by decide, iw_13 _ (List.mem_of_getElem? (i := 4) rfl), inlX7⟩
theorem pX7_73 : rf_fp RX7 73 7 15 .int := ⟨RX7, TX7, 25, tyX7, rfl, by decide, iw_13 _ (List.mem_of_getElem? (i := 4) rfl), inlX7, tyX7_ok, nmX7, rfl, rfl⟩
theorem fX7_80 : rf_fl RX7 80 7 13 := ⟨RX7, TX7, 25, rfl, by decide, iw_13 _ (List.mem_of_getElem? (i := 21) rfl), inlX7⟩
theorem pX7_80 : rf_fp RX7 80 7 13 .int := ⟨RX7, TX7, 25, tyX7, rfl, by decide, iw_13 _ (List.mem_of_getElem? (i := 21) rfl), inlX7, tyX7_ok, nmX7, rfl, rfl⟩
theorem fX7_87 : rf_fl RX7 87 7 14 := ⟨RX7, TX7, 25, rfl, by decide, iw_14 _ (List.mem_of_getElem? (i := 4) rfl), inlX7⟩
theorem pX7_87 : rf_fp RX7 87 7 14 .int := ⟨RX7, TX7, 25, tyX7, rfl, by decide, iw_14 _ (List.mem_of_getElem? (i := 4) rfl), inlX7, tyX7_ok, nmX7, rfl, rfl⟩
theorem fX7_113 : rf_fl RX7 113 7 9 := ⟨RX7, TX7, 25, rfl, by decide, iw_13 _ (List.mem_of_getElem? (i := 6) rfl), inlX7⟩
theorem pX7_113 : rf_fp RX7 113 7 9 .boolean := ⟨RX7, TX7, 25, tyX7, rfl, by decide, iw_13 _ (List.mem_of_getElem? (i := 6) rfl), inlX7, tyX7_ok, nmX7, rfl, rfl⟩
theorem fX7_117 : rf_fl RX7 117 7 8 := ⟨RX7, TX7, 25, rfl, by decide, iw_13 _ (List.mem_of_getElem? (i := 5) rfl), inlX7⟩
theorem pX7_117 : rf_fp RX7 117 7 8 .int := ⟨RX7, TX7, 25, tyX7, rfl, by decide, iw_13 _ (List.mem_of_getElem? (i := 5) rfl), inlX7, tyX7_ok, nmX7, rfl, rfl⟩
theorem fX7_131 : rf_fl RX7 131 7 17 := ⟨RX7, TX7, 25, rfl, by decide, iw_13 _ (List.mem_of_getElem? (i := 11) rfl), inlX7⟩
theorem pX7_131 : rf_fp RX7 131 7 17 .int := ⟨RX7, TX7, 25, tyX7, rfl, by decide, iw_13 _ (List.mem_of_getElem? (i := 11) rfl), inlX7, tyX7_ok, nmX7, rfl, rfl⟩
theorem fX7_134 : rf_fl RX7 134 7 24 := ⟨RX7, TX7, 25, rfl, by decide, iw_13 _ (List.mem_of_getElem? (i := 12) rfl), inlX7⟩
theorem pX7_134 : rf_fp RX7 134 7 24 .int := ⟨RX7, TX7, 25, tyX7, rfl, by decide, iw_13 _ (List.mem_of_getElem? (i := 12) rfl), inlX7, tyX7_ok, nmX7, rfl, rfl⟩
theorem fX7_232 : rf_fl RX7 232 7 21 := ⟨RX7, TX7, 25, rfl, by decide, iw_34 _ (List.mem_of_getElem? (i := 0) rfl), inlX7⟩
theorem pX7_232 : rf_fp RX7 232 7 21 .int := ⟨RX7, TX7, 25, tyX7, rfl, by decide, iw_34 _ (List.mem_of_getElem? (i := 0) rfl), inlX7, tyX7_ok, nmX7, rfl, rfl⟩
theorem kX1_38 : Cond.methodLink RX1 38 arraycopyName ∈ wsL_law := iw_12 _ (List.mem_of_getElem? (i := 12) rfl)
theorem kX2_25 : Cond.methodLink RX2 25 arraycopyName ∈ wsL_law := iw_40 _ (List.mem_of_getElem? (i := 17) rfl)
theorem kX3_30 : Cond.methodLink RX3 30 yX5_darkestPage ∈ wsL_law := iw_31 _ (List.mem_of_getElem? (i := 19) rfl)
theorem kX3_36 : Cond.methodLink RX3 36 yX5_readPage ∈ wsL_law := iw_31 _ (List.mem_of_getElem? (i := 23) rfl)
theorem kX4_28 : Cond.methodLink RX4 28 yX1_clear ∈ wsL_law := iw_7 _ (List.mem_of_getElem? (i := 13) rfl)
theorem kX4_33 : Cond.methodLink RX4 33 yX4_skipBlanks ∈ wsL_law := iw_7 _ (List.mem_of_getElem? (i := 17) rfl)
theorem kX4_36 : Cond.methodLink RX4 36 yX4_parseClause ∈ wsL_law := iw_7 _ (List.mem_of_getElem? (i := 21) rfl)
theorem kX4_40 : Cond.methodLink RX4 40 yX4_wordEnd ∈ wsL_law := iw_8 _ (List.mem_of_getElem? (i := 1) rfl)
theorem kX4_46 : Cond.methodLink RX4 46 yX4_spells ∈ wsL_law := iw_8 _ (List.mem_of_getElem? (i := 5) rfl)
theorem kX4_50 : Cond.methodLink RX4 50 yX4_parseLine ∈ wsL_law := iw_10 _ (List.mem_of_getElem? (i := 10) rfl)
theorem kX4_56 : Cond.methodLink RX4 56 yX4_parseReader ∈ wsL_law := iw_11 _ (List.mem_of_getElem? (i := 10) rfl)
theorem kX4_61 : Cond.methodLink RX4 61 yX4_parseError ∈ wsL_law := iw_11 _ (List.mem_of_getElem? (i := 23) rfl)
theorem kX4_64 : Cond.methodLink RX4 64 yX4_fail ∈ wsL_law := iw_10 _ (List.mem_of_getElem? (i := 15) rfl)
theorem kX4_71 : Cond.methodLink RX4 71 yX4_takeNumber ∈ wsL_law := iw_10 _ (List.mem_of_getElem? (i := 19) rfl)
theorem kX4_75 : Cond.methodLink RX4 75 yX4_takeEnd ∈ wsL_law := iw_11 _ (List.mem_of_getElem? (i := 2) rfl)
theorem kX4_78 : Cond.methodLink RX4 78 yX1_addLine ∈ wsL_law := iw_11 _ (List.mem_of_getElem? (i := 6) rfl)
theorem kX4_84 : Cond.methodLink RX4 84 yX4_takeKind ∈ wsL_law := iw_11 _ (List.mem_of_getElem? (i := 15) rfl)
theorem kX4_87 : Cond.methodLink RX4 87 yX1_addReader ∈ wsL_law := iw_11 _ (List.mem_of_getElem? (i := 19) rfl)
theorem kX4_94 : Cond.methodLink RX4 94 yX1_tellError ∈ wsL_law := iw_12 _ (List.mem_of_getElem? (i := 4) rfl)
theorem kX4_108 : Cond.methodLink RX4 108 yX4_isFigure ∈ wsL_law := iw_10 _ (List.mem_of_getElem? (i := 23) rfl)
theorem kX4_112 : Cond.methodLink RX4 112 yJ0_length_8abf5 ∈ wsL_law := iw_8 _ (List.mem_of_getElem? (i := 9) rfl)
theorem kX4_116 : Cond.methodLink RX4 116 yJ0_charAt_5068e ∈ wsL_law := iw_8 _ (List.mem_of_getElem? (i := 21) rfl)
theorem kX5_54 : Cond.methodLink RX5 54 yJ7_fill_53178 ∈ wsL_law := iw_4 _ (List.mem_of_getElem? (i := 14) rfl)
theorem kX5_71 : Cond.methodLink RX5 71 yX5_copyBooks ∈ wsL_law := iw_40 _ (List.mem_of_getElem? (i := 12) rfl)
theorem kX5_75 : Cond.methodLink RX5 75 arraycopyName ∈ wsL_law := iw_33 _ (List.mem_of_getElem? (i := 14) rfl)
theorem kX5_81 : Cond.methodLink RX5 81 yX2_copyFrom ∈ wsL_law := iw_40 _ (List.mem_of_getElem? (i := 13) rfl)
theorem kX5_85 : Cond.methodLink RX5 85 yX5_dayLearnt ∈ wsL_law := iw_17 _ (List.mem_of_getElem? (i := 5) rfl)
theorem kX5_92 : Cond.methodLink RX5 92 yX5_heart ∈ wsL_law := iw_17 _ (List.mem_of_getElem? (i := 9) rfl)
theorem kX5_95 : Cond.methodLink RX5 95 yX5_variantAt ∈ wsL_law := iw_17 _ (List.mem_of_getElem? (i := 0) rfl)
theorem kX5_99 : Cond.methodLink RX5 99 yX5_variantKnown ∈ wsL_law := iw_19 _ (List.mem_of_getElem? (i := 3) rfl)
theorem kX5_102 : Cond.methodLink RX5 102 yX2_add ∈ wsL_law := iw_24 _ (List.mem_of_getElem? (i := 22) rfl)
theorem kX5_109 : Cond.methodLink RX5 109 yX5_learn ∈ wsL_law := iw_25 _ (List.mem_of_getElem? (i := 2) rfl)
theorem kX5_115 : Cond.methodLink RX5 115 yX5_isFull ∈ wsL_law := iw_26 _ (List.mem_of_getElem? (i := 9) rfl)
theorem kX5_120 : Cond.methodLink RX5 120 yX5_draw ∈ wsL_law := iw_26 _ (List.mem_of_getElem? (i := 10) rfl)
theorem kX5_132 : Cond.methodLink RX5 132 yJ9_min_7cf53 ∈ wsL_law := iw_16 _ (List.mem_of_getElem? (i := 20) rfl)
theorem kX5_137 : Cond.methodLink RX5 137 yX5_daysAhead ∈ wsL_law := iw_16 _ (List.mem_of_getElem? (i := 16) rfl)
theorem kX5_140 : Cond.methodLink RX5 140 yX5_hasPage ∈ wsL_law := iw_29 _ (List.mem_of_getElem? (i := 3) rfl)
theorem kX5_144 : Cond.methodLink RX5 144 yX5_isGone ∈ wsL_law := iw_29 _ (List.mem_of_getElem? (i := 4) rfl)
theorem kX5_147 : Cond.methodLink RX5 147 yX5_readPage ∈ wsL_law := iw_29 _ (List.mem_of_getElem? (i := 5) rfl)
theorem kX5_151 : Cond.methodLink RX5 151 yX5_passDusks ∈ wsL_law := iw_29 _ (List.mem_of_getElem? (i := 6) rfl)
theorem kX5_155 : Cond.methodLink RX5 155 yX5_truePages ∈ wsL_law := iw_16 _ (List.mem_of_getElem? (i := 4) rfl)
theorem kX5_158 : Cond.methodLink RX5 158 yX5_isKept ∈ wsL_law := iw_15 _ (List.mem_of_getElem? (i := 23) rfl)
theorem kX5_162 : Cond.methodLink RX5 162 yX5_isLeft ∈ wsL_law := iw_16 _ (List.mem_of_getElem? (i := 12) rfl)
theorem kX5_165 : Cond.methodLink RX5 165 yX5_pagesLeftWith ∈ wsL_law := iw_16 _ (List.mem_of_getElem? (i := 8) rfl)
theorem kX5_168 : Cond.methodLink RX5 168 yX5_knowsAny ∈ wsL_law := iw_18 _ (List.mem_of_getElem? (i := 23) rfl)
theorem kX5_171 : Cond.methodLink RX5 171 yX5_knowersOf ∈ wsL_law := iw_19 _ (List.mem_of_getElem? (i := 20) rfl)
theorem kX5_174 : Cond.methodLink RX5 174 yX5_pagesLeft ∈ wsL_law := iw_19 _ (List.mem_of_getElem? (i := 11) rfl)
theorem kX5_177 : Cond.methodLink RX5 177 yX5_knowers ∈ wsL_law := iw_19 _ (List.mem_of_getElem? (i := 12) rfl)
theorem kX5_180 : Cond.methodLink RX5 180 yJ6_bitCount_0f7a4 ∈ wsL_law := iw_19 _ (List.mem_of_getElem? (i := 13) rfl)
theorem kX6_75 : Cond.methodLink RX6 75 yX4_append ∈ wsL_law := iw_6 _ (List.mem_of_getElem? (i := 10) rfl)
theorem kX6_79 : Cond.methodLink RX6 79 yX4_parseInto ∈ wsL_law := iw_7 _ (List.mem_of_getElem? (i := 9) rfl)
theorem kX6_85 : Cond.methodLink RX6 85 yX1_copyFrom ∈ wsL_law := iw_12 _ (List.mem_of_getElem? (i := 8) rfl)
theorem kX6_88 : Cond.methodLink RX6 88 yX5_open ∈ wsL_law := iw_12 _ (List.mem_of_getElem? (i := 16) rfl)
theorem kX6_119 : Cond.methodLink RX6 119 yX5_countKept ∈ wsL_law := iw_15 _ (List.mem_of_getElem? (i := 19) rfl)
theorem kX6_123 : Cond.methodLink RX6 123 yX1_hasLine ∈ wsL_law := iw_18 _ (List.mem_of_getElem? (i := 10) rfl)
theorem kX6_131 : Cond.methodLink RX6 131 yX5_isKept ∈ wsL_law := iw_18 _ (List.mem_of_getElem? (i := 14) rfl)
theorem kX6_135 : Cond.methodLink RX6 135 yX5_pagesLeft ∈ wsL_law := iw_18 _ (List.mem_of_getElem? (i := 15) rfl)
theorem kX6_138 : Cond.methodLink RX6 138 yX5_knowers ∈ wsL_law := iw_18 _ (List.mem_of_getElem? (i := 19) rfl)
theorem kX6_141 : Cond.methodLink RX6 141 yX5_voteOn ∈ wsL_law := iw_19 _ (List.mem_of_getElem? (i := 7) rfl)
theorem kX6_147 : Cond.methodLink RX6 147 yX1_hasReader ∈ wsL_law := iw_21 _ (List.mem_of_getElem? (i := 10) rfl)
theorem kX6_156 : Cond.methodLink RX6 156 yX5_linesKnown ∈ wsL_law := iw_21 _ (List.mem_of_getElem? (i := 14) rfl)
theorem kX6_159 : Cond.methodLink RX6 159 yX5_hasPage ∈ wsL_law := iw_22 _ (List.mem_of_getElem? (i := 13) rfl)
theorem kX6_171 : Cond.methodLink RX6 171 yX2_timesRead ∈ wsL_law := iw_22 _ (List.mem_of_getElem? (i := 17) rfl)
theorem kX6_174 : Cond.methodLink RX6 174 yX5_knowsAny ∈ wsL_law := iw_23 _ (List.mem_of_getElem? (i := 13) rfl)
theorem kX6_177 : Cond.methodLink RX6 177 yX5_variantKnown ∈ wsL_law := iw_23 _ (List.mem_of_getElem? (i := 14) rfl)
theorem kX6_181 : Cond.methodLink RX6 181 yX5_dayLearnt ∈ wsL_law := iw_23 _ (List.mem_of_getElem? (i := 15) rfl)
theorem kX6_191 : Cond.methodLink RX6 191 yX5_isGone ∈ wsL_law := iw_24 _ (List.mem_of_getElem? (i := 13) rfl)
theorem kX6_195 : Cond.methodLink RX6 195 yX5_readPage ∈ wsL_law := iw_24 _ (List.mem_of_getElem? (i := 17) rfl)
theorem kX6_199 : Cond.methodLink RX6 199 yX5_isFull ∈ wsL_law := iw_25 _ (List.mem_of_getElem? (i := 23) rfl)
theorem kX6_203 : Cond.methodLink RX6 203 yX5_addPage ∈ wsL_law := iw_26 _ (List.mem_of_getElem? (i := 3) rfl)
theorem kX6_207 : Cond.methodLink RX6 207 yX5_learn ∈ wsL_law := iw_27 _ (List.mem_of_getElem? (i := 21) rfl)
theorem kX6_211 : Cond.methodLink RX6 211 yX5_passDusks ∈ wsL_law := iw_28 _ (List.mem_of_getElem? (i := 6) rfl)
theorem kX6_214 : Cond.methodLink RX6 214 yX5_liveByDraws ∈ wsL_law := iw_28 _ (List.mem_of_getElem? (i := 23) rfl)
theorem kX6_217 : Cond.methodLink RX6 217 yX5_countGone ∈ wsL_law := iw_29 _ (List.mem_of_getElem? (i := 7) rfl)
theorem kX6_221 : Cond.methodLink RX6 221 yX5_firstPage ∈ wsL_law := iw_30 _ (List.mem_of_getElem? (i := 0) rfl)
theorem kX6_224 : Cond.methodLink RX6 224 yX3_add ∈ wsL_law := iw_30 _ (List.mem_of_getElem? (i := 12) rfl)
theorem kX6_227 : Cond.methodLink RX6 227 yX6_isSetOf ∈ wsL_law := iw_31 _ (List.mem_of_getElem? (i := 10) rfl)
theorem kX6_230 : Cond.methodLink RX6 230 yX3_fulfil ∈ wsL_law := iw_31 _ (List.mem_of_getElem? (i := 13) rfl)
theorem kX6_234 : Cond.methodLink RX6 234 yX0_clear ∈ wsL_law := iw_32 _ (List.mem_of_getElem? (i := 22) rfl)
theorem kX6_237 : Cond.methodLink RX6 237 yX6_chooseFor ∈ wsL_law := iw_33 _ (List.mem_of_getElem? (i := 2) rfl)
theorem kX6_249 : Cond.methodLink RX6 249 yX3_forLine ∈ wsL_law := iw_33 _ (List.mem_of_getElem? (i := 6) rfl)
theorem kX6_252 : Cond.methodLink RX6 252 yX5_copyBooks ∈ wsL_law := iw_33 _ (List.mem_of_getElem? (i := 10) rfl)
theorem kX6_256 : Cond.methodLink RX6 256 yJ6_bitCount_0f7a4 ∈ wsL_law := iw_33 _ (List.mem_of_getElem? (i := 15) rfl)
theorem kX6_261 : Cond.methodLink RX6 261 yX0_addLine ∈ wsL_law := iw_33 _ (List.mem_of_getElem? (i := 16) rfl)
theorem kX6_265 : Cond.methodLink RX6 265 yX6_has ∈ wsL_law := iw_34 _ (List.mem_of_getElem? (i := 13) rfl)
theorem kX6_268 : Cond.methodLink RX6 268 yX6_fewestToKnow ∈ wsL_law := iw_34 _ (List.mem_of_getElem? (i := 14) rfl)
theorem kX6_271 : Cond.methodLink RX6 271 yX5_trueKnowers ∈ wsL_law := iw_34 _ (List.mem_of_getElem? (i := 18) rfl)
theorem kX6_274 : Cond.methodLink RX6 274 yX5_truePages ∈ wsL_law := iw_34 _ (List.mem_of_getElem? (i := 22) rfl)
theorem kX6_277 : Cond.methodLink RX6 277 yX1_readersOfKind ∈ wsL_law := iw_34 _ (List.mem_of_getElem? (i := 23) rfl)
theorem kX6_280 : Cond.methodLink RX6 280 yX6_pagesAllow ∈ wsL_law := iw_35 _ (List.mem_of_getElem? (i := 3) rfl)
theorem kX6_283 : Cond.methodLink RX6 283 yX5_trueReadingsLeft ∈ wsL_law := iw_35 _ (List.mem_of_getElem? (i := 7) rfl)
theorem kX6_286 : Cond.methodLink RX6 286 yJ7_fill_53178 ∈ wsL_law := iw_36 _ (List.mem_of_getElem? (i := 7) rfl)
theorem kX6_294 : Cond.methodLink RX6 294 yX5_canBeCopied ∈ wsL_law := iw_37 _ (List.mem_of_getElem? (i := 5) rfl)
theorem kX6_298 : Cond.methodLink RX6 298 yX5_firstWriter ∈ wsL_law := iw_37 _ (List.mem_of_getElem? (i := 21) rfl)
theorem kX6_304 : Cond.methodLink RX6 304 yJ9_min_7cf53 ∈ wsL_law := iw_38 _ (List.mem_of_getElem? (i := 10) rfl)
theorem kX6_309 : Cond.methodLink RX6 309 yJ9_max_7cf53 ∈ wsL_law := iw_38 _ (List.mem_of_getElem? (i := 11) rfl)
theorem kX6_312 : Cond.methodLink RX6 312 yX5_copyFrom ∈ wsL_law := iw_40 _ (List.mem_of_getElem? (i := 8) rfl)
theorem kX7_59 : Cond.methodLink RX7 59 yX7_in ∈ wsL_law := iw_6 _ (List.mem_of_getElem? (i := 23) rfl)
theorem kX7_76 : Cond.methodLink RX7 76 yX7_here ∈ wsL_law := iw_13 _ (List.mem_of_getElem? (i := 13) rfl)
theorem kX7_94 : Cond.methodLink RX7 94 yX7_want ∈ wsL_law := iw_14 _ (List.mem_of_getElem? (i := 9) rfl)
theorem kX7_99 : Cond.methodLink RX7 99 yX7_isWord ∈ wsL_law := iw_14 _ (List.mem_of_getElem? (i := 5) rfl)
theorem kX7_103 : Cond.methodLink RX7 103 yX7_takeWord ∈ wsL_law := iw_13 _ (List.mem_of_getElem? (i := 22) rfl)
theorem kX7_106 : Cond.methodLink RX7 106 yX7_takeNumber ∈ wsL_law := iw_14 _ (List.mem_of_getElem? (i := 13) rfl)
theorem kX7_110 : Cond.methodLink RX7 110 yX7_kindHere ∈ wsL_law := iw_14 _ (List.mem_of_getElem? (i := 20) rfl)
theorem kX7_120 : Cond.methodLink RX7 120 yX7_takeClause ∈ wsL_law := iw_13 _ (List.mem_of_getElem? (i := 17) rfl)
theorem kX7_137 : Cond.methodLink RX7 137 yX7_isKeptLine ∈ wsL_law := iw_17 _ (List.mem_of_getElem? (i := 20) rfl)
theorem kX7_141 : Cond.methodLink RX7 141 yX7_one ∈ wsL_law := iw_18 _ (List.mem_of_getElem? (i := 0) rfl)
theorem kX7_145 : Cond.methodLink RX7 145 yX7_keptMany ∈ wsL_law := iw_17 _ (List.mem_of_getElem? (i := 16) rfl)
theorem kX7_149 : Cond.methodLink RX7 149 yX7_pagesOf ∈ wsL_law := iw_20 _ (List.mem_of_getElem? (i := 9) rfl)
theorem kX7_152 : Cond.methodLink RX7 152 yX7_knowers ∈ wsL_law := iw_20 _ (List.mem_of_getElem? (i := 13) rfl)
theorem kX7_155 : Cond.methodLink RX7 155 yX7_ones ∈ wsL_law := iw_20 _ (List.mem_of_getElem? (i := 21) rfl)
theorem kX7_158 : Cond.methodLink RX7 158 yX7_votesFor ∈ wsL_law := iw_21 _ (List.mem_of_getElem? (i := 0) rfl)
theorem kX7_161 : Cond.methodLink RX7 161 yX7_isLine ∈ wsL_law := iw_20 _ (List.mem_of_getElem? (i := 5) rfl)
theorem kX7_166 : Cond.methodLink RX7 166 yX7_vote ∈ wsL_law := iw_20 _ (List.mem_of_getElem? (i := 17) rfl)
theorem kX7_169 : Cond.methodLink RX7 169 yX7_isReader ∈ wsL_law := iw_21 _ (List.mem_of_getElem? (i := 22) rfl)
theorem kX7_172 : Cond.methodLink RX7 172 yX7_knownBy ∈ wsL_law := iw_22 _ (List.mem_of_getElem? (i := 2) rfl)
theorem kX7_175 : Cond.methodLink RX7 175 yX7_isPage ∈ wsL_law := iw_23 _ (List.mem_of_getElem? (i := 1) rfl)
theorem kX7_178 : Cond.methodLink RX7 178 yX7_readMany ∈ wsL_law := iw_23 _ (List.mem_of_getElem? (i := 5) rfl)
theorem kX7_183 : Cond.methodLink RX7 183 yX7_know ∈ wsL_law := iw_25 _ (List.mem_of_getElem? (i := 15) rfl)
theorem kX7_188 : Cond.methodLink RX7 188 yX7_readPage ∈ wsL_law := iw_25 _ (List.mem_of_getElem? (i := 11) rfl)
theorem kX7_199 : Cond.methodLink RX7 199 yX7_draw ∈ wsL_law := iw_27 _ (List.mem_of_getElem? (i := 1) rfl)
theorem kX7_202 : Cond.methodLink RX7 202 yX7_make ∈ wsL_law := iw_26 _ (List.mem_of_getElem? (i := 21) rfl)
theorem kX7_208 : Cond.methodLink RX7 208 yX7_darken ∈ wsL_law := iw_28 _ (List.mem_of_getElem? (i := 15) rfl)
theorem kX7_214 : Cond.methodLink RX7 214 yX7_runDays ∈ wsL_law := iw_29 _ (List.mem_of_getElem? (i := 16) rfl)
theorem kX7_220 : Cond.methodLink RX7 220 yX7_has ∈ wsL_law := iw_32 _ (List.mem_of_getElem? (i := 8) rfl)
theorem kX7_223 : Cond.methodLink RX7 223 yX7_palest ∈ wsL_law := iw_32 _ (List.mem_of_getElem? (i := 11) rfl)
theorem kX7_226 : Cond.methodLink RX7 226 yX7_grantAll ∈ wsL_law := iw_32 _ (List.mem_of_getElem? (i := 4) rfl)
theorem kX7_229 : Cond.methodLink RX7 229 yX7_copyRow ∈ wsL_law := iw_34 _ (List.mem_of_getElem? (i := 5) rfl)
theorem kX7_235 : Cond.methodLink RX7 235 yX7_sumBy ∈ wsL_law := iw_34 _ (List.mem_of_getElem? (i := 1) rfl)
theorem kX7_238 : Cond.methodLink RX7 238 yX7_isTrue ∈ wsL_law := iw_35 _ (List.mem_of_getElem? (i := 19) rfl)
theorem kX7_241 : Cond.methodLink RX7 241 yX7_lesser ∈ wsL_law := iw_35 _ (List.mem_of_getElem? (i := 23) rfl)
theorem kX7_245 : Cond.methodLink RX7 245 yX7_fewest ∈ wsL_law := iw_35 _ (List.mem_of_getElem? (i := 15) rfl)
theorem ceJ6_bitCount_0f7a4 : rf_ceS mJ6_bitCount_0f7a4 1 := ⟨⟨by decide +kernel, iw_19 _ (List.mem_of_getElem? (i := 16) rfl), iw_19 _ (List.mem_of_getElem? (i := 15) rfl), ⟨by decide +kernel, by decide +kernel, by decide +kernel⟩, rfl, rfl⟩, iw_19 _ (List.mem_of_getElem? (i := 14) rfl)⟩
theorem ceJ7_fill_53178 : rf_ceS mJ7_fill_53178 2 := ⟨⟨by decide +kernel, iw_4 _ (List.mem_of_getElem? (i := 17) rfl), iw_4 _ (List.mem_of_getElem? (i := 16) rfl), ⟨by decide +kernel, by decide +kernel, by decide +kernel⟩, rfl, rfl⟩, iw_4 _ (List.mem_of_getElem? (i := 15) rfl)⟩
theorem ceX0_addLine : rf_ceV mX0_addLine 4 0 := ⟨⟨by decide +kernel, iw_33 _ (List.mem_of_getElem? (i := 19) rfl), iw_2 _ (List.mem_of_getElem? (i := 11) rfl), ⟨by decide +kernel, by decide +kernel, by decide +kernel⟩, rfl, rfl⟩, iw_33 _ (List.mem_of_getElem? (i := 17) rfl), iw_33 _ (List.mem_of_getElem? (i := 18) rfl), _, rfl, rfl⟩
theorem ceX0_clear : rf_ceV mX0_clear 0 0 := ⟨⟨by decide +kernel, iw_33 _ (List.mem_of_getElem? (i := 1) rfl), iw_2 _ (List.mem_of_getElem? (i := 11) rfl), ⟨by decide +kernel, by decide +kernel, by decide +kernel⟩, rfl, rfl⟩, iw_32 _ (List.mem_of_getElem? (i := 23) rfl), iw_33 _ (List.mem_of_getElem? (i := 0) rfl), _, rfl, rfl⟩
theorem ceX1_addLine : rf_ceV mX1_addLine 2 1 := ⟨⟨by decide +kernel, iw_11 _ (List.mem_of_getElem? (i := 9) rfl), iw_1 _ (List.mem_of_getElem? (i := 19) rfl), ⟨by decide +kernel, by decide +kernel, by decide +kernel⟩, rfl, rfl⟩, iw_11 _ (List.mem_of_getElem? (i := 7) rfl), iw_11 _ (List.mem_of_getElem? (i := 8) rfl), _, rfl, rfl⟩
theorem ceX1_addReader : rf_ceV mX1_addReader 2 1 := ⟨⟨by decide +kernel, iw_11 _ (List.mem_of_getElem? (i := 22) rfl), iw_1 _ (List.mem_of_getElem? (i := 19) rfl), ⟨by decide +kernel, by decide +kernel, by decide +kernel⟩, rfl, rfl⟩, iw_11 _ (List.mem_of_getElem? (i := 20) rfl), iw_11 _ (List.mem_of_getElem? (i := 21) rfl), _, rfl, rfl⟩
theorem ceX1_clear : rf_ceV mX1_clear 0 1 := ⟨⟨by decide +kernel, iw_7 _ (List.mem_of_getElem? (i := 16) rfl), iw_1 _ (List.mem_of_getElem? (i := 19) rfl), ⟨by decide +kernel, by decide +kernel, by decide +kernel⟩, rfl, rfl⟩, iw_7 _ (List.mem_of_getElem? (i := 14) rfl), iw_7 _ (List.mem_of_getElem? (i := 15) rfl), _, rfl, rfl⟩
theorem ceX1_copyFrom : rf_ceV mX1_copyFrom 1 1 := ⟨⟨by decide +kernel, iw_12 _ (List.mem_of_getElem? (i := 11) rfl), iw_1 _ (List.mem_of_getElem? (i := 19) rfl), ⟨by decide +kernel, by decide +kernel, by decide +kernel⟩, rfl, rfl⟩, iw_12 _ (List.mem_of_getElem? (i := 9) rfl), iw_12 _ (List.mem_of_getElem? (i := 10) rfl), _, rfl, rfl⟩
theorem ceX1_hasLine : rf_ceV mX1_hasLine 1 1 := ⟨⟨by decide +kernel, iw_18 _ (List.mem_of_getElem? (i := 13) rfl), iw_1 _ (List.mem_of_getElem? (i := 19) rfl), ⟨by decide +kernel, by decide +kernel, by decide +kernel⟩, rfl, rfl⟩, iw_18 _ (List.mem_of_getElem? (i := 11) rfl), iw_18 _ (List.mem_of_getElem? (i := 12) rfl), _, rfl, rfl⟩
theorem ceX1_hasReader : rf_ceV mX1_hasReader 1 1 := ⟨⟨by decide +kernel, iw_21 _ (List.mem_of_getElem? (i := 13) rfl), iw_1 _ (List.mem_of_getElem? (i := 19) rfl), ⟨by decide +kernel, by decide +kernel, by decide +kernel⟩, rfl, rfl⟩, iw_21 _ (List.mem_of_getElem? (i := 11) rfl), iw_21 _ (List.mem_of_getElem? (i := 12) rfl), _, rfl, rfl⟩
theorem ceX1_readersOfKind : rf_ceV mX1_readersOfKind 1 1 := ⟨⟨by decide +kernel, iw_35 _ (List.mem_of_getElem? (i := 2) rfl), iw_1 _ (List.mem_of_getElem? (i := 19) rfl), ⟨by decide +kernel, by decide +kernel, by decide +kernel⟩, rfl, rfl⟩, iw_35 _ (List.mem_of_getElem? (i := 0) rfl), iw_35 _ (List.mem_of_getElem? (i := 1) rfl), _, rfl, rfl⟩
theorem ceX1_tellError : rf_ceV mX1_tellError 1 1 := ⟨⟨by decide +kernel, iw_12 _ (List.mem_of_getElem? (i := 7) rfl), iw_1 _ (List.mem_of_getElem? (i := 19) rfl), ⟨by decide +kernel, by decide +kernel, by decide +kernel⟩, rfl, rfl⟩, iw_12 _ (List.mem_of_getElem? (i := 5) rfl), iw_12 _ (List.mem_of_getElem? (i := 6) rfl), _, rfl, rfl⟩
theorem ceX2_add : rf_ceV mX2_add 3 2 := ⟨⟨by decide +kernel, iw_25 _ (List.mem_of_getElem? (i := 1) rfl), iw_3 _ (List.mem_of_getElem? (i := 18) rfl), ⟨by decide +kernel, by decide +kernel, by decide +kernel⟩, rfl, rfl⟩, iw_24 _ (List.mem_of_getElem? (i := 23) rfl), iw_25 _ (List.mem_of_getElem? (i := 0) rfl), _, rfl, rfl⟩
theorem ceX2_copyFrom : rf_ceV mX2_copyFrom 1 2 := ⟨⟨by decide +kernel, iw_40 _ (List.mem_of_getElem? (i := 16) rfl), iw_3 _ (List.mem_of_getElem? (i := 18) rfl), ⟨by decide +kernel, by decide +kernel, by decide +kernel⟩, rfl, rfl⟩, iw_40 _ (List.mem_of_getElem? (i := 14) rfl), iw_40 _ (List.mem_of_getElem? (i := 15) rfl), _, rfl, rfl⟩
theorem ceX2_timesRead : rf_ceV mX2_timesRead 1 2 := ⟨⟨by decide +kernel, iw_22 _ (List.mem_of_getElem? (i := 20) rfl), iw_3 _ (List.mem_of_getElem? (i := 18) rfl), ⟨by decide +kernel, by decide +kernel, by decide +kernel⟩, rfl, rfl⟩, iw_22 _ (List.mem_of_getElem? (i := 18) rfl), iw_22 _ (List.mem_of_getElem? (i := 19) rfl), _, rfl, rfl⟩
theorem ceX3_add : rf_ceV mX3_add 3 3 := ⟨⟨by decide +kernel, iw_30 _ (List.mem_of_getElem? (i := 15) rfl), iw_2 _ (List.mem_of_getElem? (i := 7) rfl), ⟨by decide +kernel, by decide +kernel, by decide +kernel⟩, rfl, rfl⟩, iw_30 _ (List.mem_of_getElem? (i := 13) rfl), iw_30 _ (List.mem_of_getElem? (i := 14) rfl), _, rfl, rfl⟩
theorem ceX3_forLine : rf_ceV mX3_forLine 1 3 := ⟨⟨by decide +kernel, iw_33 _ (List.mem_of_getElem? (i := 9) rfl), iw_2 _ (List.mem_of_getElem? (i := 7) rfl), ⟨by decide +kernel, by decide +kernel, by decide +kernel⟩, rfl, rfl⟩, iw_33 _ (List.mem_of_getElem? (i := 7) rfl), iw_33 _ (List.mem_of_getElem? (i := 8) rfl), _, rfl, rfl⟩
theorem ceX3_fulfil : rf_ceV mX3_fulfil 2 3 := ⟨⟨by decide +kernel, iw_31 _ (List.mem_of_getElem? (i := 16) rfl), iw_2 _ (List.mem_of_getElem? (i := 7) rfl), ⟨by decide +kernel, by decide +kernel, by decide +kernel⟩, rfl, rfl⟩, iw_31 _ (List.mem_of_getElem? (i := 14) rfl), iw_31 _ (List.mem_of_getElem? (i := 15) rfl), _, rfl, rfl⟩
theorem ceX4_append : rf_ceV mX4_append 1 4 := ⟨⟨by decide +kernel, iw_6 _ (List.mem_of_getElem? (i := 13) rfl), iw_1 _ (List.mem_of_getElem? (i := 15) rfl), ⟨by decide +kernel, by decide +kernel, by decide +kernel⟩, rfl, rfl⟩, iw_6 _ (List.mem_of_getElem? (i := 11) rfl), iw_6 _ (List.mem_of_getElem? (i := 12) rfl), _, rfl, rfl⟩
theorem ceX4_fail : rf_ceV mX4_fail 2 4 := ⟨⟨by decide +kernel, iw_10 _ (List.mem_of_getElem? (i := 18) rfl), iw_1 _ (List.mem_of_getElem? (i := 15) rfl), ⟨by decide +kernel, by decide +kernel, by decide +kernel⟩, rfl, rfl⟩, iw_10 _ (List.mem_of_getElem? (i := 16) rfl), iw_10 _ (List.mem_of_getElem? (i := 17) rfl), _, rfl, rfl⟩
theorem ceX4_isFigure : rf_ceS mX4_isFigure 1 := ⟨⟨by decide +kernel, iw_11 _ (List.mem_of_getElem? (i := 1) rfl), iw_1 _ (List.mem_of_getElem? (i := 15) rfl), ⟨by decide +kernel, by decide +kernel, by decide +kernel⟩, rfl, rfl⟩, iw_11 _ (List.mem_of_getElem? (i := 0) rfl)⟩
theorem ceX4_parseClause : rf_ceV mX4_parseClause 1 4 := ⟨⟨by decide +kernel, iw_8 _ (List.mem_of_getElem? (i := 0) rfl), iw_1 _ (List.mem_of_getElem? (i := 15) rfl), ⟨by decide +kernel, by decide +kernel, by decide +kernel⟩, rfl, rfl⟩, iw_7 _ (List.mem_of_getElem? (i := 22) rfl), iw_7 _ (List.mem_of_getElem? (i := 23) rfl), _, rfl, rfl⟩
theorem ceX4_parseError : rf_ceV mX4_parseError 2 4 := ⟨⟨by decide +kernel, iw_12 _ (List.mem_of_getElem? (i := 2) rfl), iw_1 _ (List.mem_of_getElem? (i := 15) rfl), ⟨by decide +kernel, by decide +kernel, by decide +kernel⟩, rfl, rfl⟩, iw_12 _ (List.mem_of_getElem? (i := 0) rfl), iw_12 _ (List.mem_of_getElem? (i := 1) rfl), _, rfl, rfl⟩
theorem ceX4_parseInto : rf_ceV mX4_parseInto 1 4 := ⟨⟨by decide +kernel, iw_7 _ (List.mem_of_getElem? (i := 12) rfl), iw_1 _ (List.mem_of_getElem? (i := 15) rfl), ⟨by decide +kernel, by decide +kernel, by decide +kernel⟩, rfl, rfl⟩, iw_7 _ (List.mem_of_getElem? (i := 10) rfl), iw_7 _ (List.mem_of_getElem? (i := 11) rfl), _, rfl, rfl⟩
theorem ceX4_parseLine : rf_ceV mX4_parseLine 2 4 := ⟨⟨by decide +kernel, iw_10 _ (List.mem_of_getElem? (i := 13) rfl), iw_1 _ (List.mem_of_getElem? (i := 15) rfl), ⟨by decide +kernel, by decide +kernel, by decide +kernel⟩, rfl, rfl⟩, iw_10 _ (List.mem_of_getElem? (i := 11) rfl), iw_10 _ (List.mem_of_getElem? (i := 12) rfl), _, rfl, rfl⟩
theorem ceX4_parseReader : rf_ceV mX4_parseReader 2 4 := ⟨⟨by decide +kernel, iw_11 _ (List.mem_of_getElem? (i := 13) rfl), iw_1 _ (List.mem_of_getElem? (i := 15) rfl), ⟨by decide +kernel, by decide +kernel, by decide +kernel⟩, rfl, rfl⟩, iw_11 _ (List.mem_of_getElem? (i := 11) rfl), iw_11 _ (List.mem_of_getElem? (i := 12) rfl), _, rfl, rfl⟩
theorem ceX4_skipBlanks : rf_ceV mX4_skipBlanks 0 4 := ⟨⟨by decide +kernel, iw_7 _ (List.mem_of_getElem? (i := 20) rfl), iw_1 _ (List.mem_of_getElem? (i := 15) rfl), ⟨by decide +kernel, by decide +kernel, by decide +kernel⟩, rfl, rfl⟩, iw_7 _ (List.mem_of_getElem? (i := 18) rfl), iw_7 _ (List.mem_of_getElem? (i := 19) rfl), _, rfl, rfl⟩
theorem ceX4_spells : rf_ceV mX4_spells 3 4 := ⟨⟨by decide +kernel, iw_8 _ (List.mem_of_getElem? (i := 8) rfl), iw_1 _ (List.mem_of_getElem? (i := 15) rfl), ⟨by decide +kernel, by decide +kernel, by decide +kernel⟩, rfl, rfl⟩, iw_8 _ (List.mem_of_getElem? (i := 6) rfl), iw_8 _ (List.mem_of_getElem? (i := 7) rfl), _, rfl, rfl⟩
theorem ceX4_takeEnd : rf_ceV mX4_takeEnd 0 4 := ⟨⟨by decide +kernel, iw_11 _ (List.mem_of_getElem? (i := 5) rfl), iw_1 _ (List.mem_of_getElem? (i := 15) rfl), ⟨by decide +kernel, by decide +kernel, by decide +kernel⟩, rfl, rfl⟩, iw_11 _ (List.mem_of_getElem? (i := 3) rfl), iw_11 _ (List.mem_of_getElem? (i := 4) rfl), _, rfl, rfl⟩
theorem ceX4_takeKind : rf_ceV mX4_takeKind 0 4 := ⟨⟨by decide +kernel, iw_11 _ (List.mem_of_getElem? (i := 18) rfl), iw_1 _ (List.mem_of_getElem? (i := 15) rfl), ⟨by decide +kernel, by decide +kernel, by decide +kernel⟩, rfl, rfl⟩, iw_11 _ (List.mem_of_getElem? (i := 16) rfl), iw_11 _ (List.mem_of_getElem? (i := 17) rfl), _, rfl, rfl⟩
theorem ceX4_takeNumber : rf_ceV mX4_takeNumber 2 4 := ⟨⟨by decide +kernel, iw_10 _ (List.mem_of_getElem? (i := 22) rfl), iw_1 _ (List.mem_of_getElem? (i := 15) rfl), ⟨by decide +kernel, by decide +kernel, by decide +kernel⟩, rfl, rfl⟩, iw_10 _ (List.mem_of_getElem? (i := 20) rfl), iw_10 _ (List.mem_of_getElem? (i := 21) rfl), _, rfl, rfl⟩
theorem ceX4_wordEnd : rf_ceV mX4_wordEnd 0 4 := ⟨⟨by decide +kernel, iw_8 _ (List.mem_of_getElem? (i := 4) rfl), iw_1 _ (List.mem_of_getElem? (i := 15) rfl), ⟨by decide +kernel, by decide +kernel, by decide +kernel⟩, rfl, rfl⟩, iw_8 _ (List.mem_of_getElem? (i := 2) rfl), iw_8 _ (List.mem_of_getElem? (i := 3) rfl), _, rfl, rfl⟩
theorem ceX5_addPage : rf_ceV mX5_addPage 3 5 := ⟨⟨by decide +kernel, iw_26 _ (List.mem_of_getElem? (i := 6) rfl), iw_2 _ (List.mem_of_getElem? (i := 0) rfl), ⟨by decide +kernel, by decide +kernel, by decide +kernel⟩, rfl, rfl⟩, iw_26 _ (List.mem_of_getElem? (i := 4) rfl), iw_26 _ (List.mem_of_getElem? (i := 5) rfl), _, rfl, rfl⟩
theorem ceX5_canBeCopied : rf_ceV mX5_canBeCopied 3 5 := ⟨⟨by decide +kernel, iw_37 _ (List.mem_of_getElem? (i := 8) rfl), iw_2 _ (List.mem_of_getElem? (i := 0) rfl), ⟨by decide +kernel, by decide +kernel, by decide +kernel⟩, rfl, rfl⟩, iw_37 _ (List.mem_of_getElem? (i := 6) rfl), iw_37 _ (List.mem_of_getElem? (i := 7) rfl), _, rfl, rfl⟩
theorem ceX5_copyBooks : rf_ceV mX5_copyBooks 1 5 := ⟨⟨by decide +kernel, iw_33 _ (List.mem_of_getElem? (i := 13) rfl), iw_2 _ (List.mem_of_getElem? (i := 0) rfl), ⟨by decide +kernel, by decide +kernel, by decide +kernel⟩, rfl, rfl⟩, iw_33 _ (List.mem_of_getElem? (i := 11) rfl), iw_33 _ (List.mem_of_getElem? (i := 12) rfl), _, rfl, rfl⟩
theorem ceX5_copyFrom : rf_ceV mX5_copyFrom 1 5 := ⟨⟨by decide +kernel, iw_40 _ (List.mem_of_getElem? (i := 11) rfl), iw_2 _ (List.mem_of_getElem? (i := 0) rfl), ⟨by decide +kernel, by decide +kernel, by decide +kernel⟩, rfl, rfl⟩, iw_40 _ (List.mem_of_getElem? (i := 9) rfl), iw_40 _ (List.mem_of_getElem? (i := 10) rfl), _, rfl, rfl⟩
theorem ceX5_countGone : rf_ceV mX5_countGone 0 5 := ⟨⟨by decide +kernel, iw_29 _ (List.mem_of_getElem? (i := 10) rfl), iw_2 _ (List.mem_of_getElem? (i := 0) rfl), ⟨by decide +kernel, by decide +kernel, by decide +kernel⟩, rfl, rfl⟩, iw_29 _ (List.mem_of_getElem? (i := 8) rfl), iw_29 _ (List.mem_of_getElem? (i := 9) rfl), _, rfl, rfl⟩
theorem ceX5_countKept : rf_ceV mX5_countKept 1 5 := ⟨⟨by decide +kernel, iw_15 _ (List.mem_of_getElem? (i := 22) rfl), iw_2 _ (List.mem_of_getElem? (i := 0) rfl), ⟨by decide +kernel, by decide +kernel, by decide +kernel⟩, rfl, rfl⟩, iw_15 _ (List.mem_of_getElem? (i := 20) rfl), iw_15 _ (List.mem_of_getElem? (i := 21) rfl), _, rfl, rfl⟩
theorem ceX5_darkestPage : rf_ceV mX5_darkestPage 1 5 := ⟨⟨by decide +kernel, iw_31 _ (List.mem_of_getElem? (i := 22) rfl), iw_2 _ (List.mem_of_getElem? (i := 0) rfl), ⟨by decide +kernel, by decide +kernel, by decide +kernel⟩, rfl, rfl⟩, iw_31 _ (List.mem_of_getElem? (i := 20) rfl), iw_31 _ (List.mem_of_getElem? (i := 21) rfl), _, rfl, rfl⟩
theorem ceX5_dayLearnt : rf_ceV mX5_dayLearnt 2 5 := ⟨⟨by decide +kernel, iw_17 _ (List.mem_of_getElem? (i := 8) rfl), iw_2 _ (List.mem_of_getElem? (i := 0) rfl), ⟨by decide +kernel, by decide +kernel, by decide +kernel⟩, rfl, rfl⟩, iw_17 _ (List.mem_of_getElem? (i := 6) rfl), iw_17 _ (List.mem_of_getElem? (i := 7) rfl), _, rfl, rfl⟩
theorem ceX5_daysAhead : rf_ceV mX5_daysAhead 1 5 := ⟨⟨by decide +kernel, iw_16 _ (List.mem_of_getElem? (i := 19) rfl), iw_2 _ (List.mem_of_getElem? (i := 0) rfl), ⟨by decide +kernel, by decide +kernel, by decide +kernel⟩, rfl, rfl⟩, iw_16 _ (List.mem_of_getElem? (i := 17) rfl), iw_16 _ (List.mem_of_getElem? (i := 18) rfl), _, rfl, rfl⟩
theorem ceX5_draw : rf_ceV mX5_draw 1 5 := ⟨⟨by decide +kernel, iw_26 _ (List.mem_of_getElem? (i := 13) rfl), iw_2 _ (List.mem_of_getElem? (i := 0) rfl), ⟨by decide +kernel, by decide +kernel, by decide +kernel⟩, rfl, rfl⟩, iw_26 _ (List.mem_of_getElem? (i := 11) rfl), iw_26 _ (List.mem_of_getElem? (i := 12) rfl), _, rfl, rfl⟩
theorem ceX5_firstPage : rf_ceV mX5_firstPage 1 5 := ⟨⟨by decide +kernel, iw_30 _ (List.mem_of_getElem? (i := 3) rfl), iw_2 _ (List.mem_of_getElem? (i := 0) rfl), ⟨by decide +kernel, by decide +kernel, by decide +kernel⟩, rfl, rfl⟩, iw_30 _ (List.mem_of_getElem? (i := 1) rfl), iw_30 _ (List.mem_of_getElem? (i := 2) rfl), _, rfl, rfl⟩
theorem ceX5_firstWriter : rf_ceV mX5_firstWriter 2 5 := ⟨⟨by decide +kernel, iw_38 _ (List.mem_of_getElem? (i := 0) rfl), iw_2 _ (List.mem_of_getElem? (i := 0) rfl), ⟨by decide +kernel, by decide +kernel, by decide +kernel⟩, rfl, rfl⟩, iw_37 _ (List.mem_of_getElem? (i := 22) rfl), iw_37 _ (List.mem_of_getElem? (i := 23) rfl), _, rfl, rfl⟩
theorem ceX5_hasPage : rf_ceV mX5_hasPage 1 5 := ⟨⟨by decide +kernel, iw_22 _ (List.mem_of_getElem? (i := 16) rfl), iw_2 _ (List.mem_of_getElem? (i := 0) rfl), ⟨by decide +kernel, by decide +kernel, by decide +kernel⟩, rfl, rfl⟩, iw_22 _ (List.mem_of_getElem? (i := 14) rfl), iw_22 _ (List.mem_of_getElem? (i := 15) rfl), _, rfl, rfl⟩
theorem ceX5_heart : rf_ceS mX5_heart 2 := ⟨⟨by decide +kernel, iw_17 _ (List.mem_of_getElem? (i := 11) rfl), iw_2 _ (List.mem_of_getElem? (i := 0) rfl), ⟨by decide +kernel, by decide +kernel, by decide +kernel⟩, rfl, rfl⟩, iw_17 _ (List.mem_of_getElem? (i := 10) rfl)⟩
theorem ceX5_isFull : rf_ceV mX5_isFull 0 5 := ⟨⟨by decide +kernel, iw_26 _ (List.mem_of_getElem? (i := 2) rfl), iw_2 _ (List.mem_of_getElem? (i := 0) rfl), ⟨by decide +kernel, by decide +kernel, by decide +kernel⟩, rfl, rfl⟩, iw_26 _ (List.mem_of_getElem? (i := 0) rfl), iw_26 _ (List.mem_of_getElem? (i := 1) rfl), _, rfl, rfl⟩
theorem ceX5_isGone : rf_ceV mX5_isGone 1 5 := ⟨⟨by decide +kernel, iw_24 _ (List.mem_of_getElem? (i := 16) rfl), iw_2 _ (List.mem_of_getElem? (i := 0) rfl), ⟨by decide +kernel, by decide +kernel, by decide +kernel⟩, rfl, rfl⟩, iw_24 _ (List.mem_of_getElem? (i := 14) rfl), iw_24 _ (List.mem_of_getElem? (i := 15) rfl), _, rfl, rfl⟩
theorem ceX5_isKept : rf_ceV mX5_isKept 2 5 := ⟨⟨by decide +kernel, iw_16 _ (List.mem_of_getElem? (i := 2) rfl), iw_2 _ (List.mem_of_getElem? (i := 0) rfl), ⟨by decide +kernel, by decide +kernel, by decide +kernel⟩, rfl, rfl⟩, iw_16 _ (List.mem_of_getElem? (i := 0) rfl), iw_16 _ (List.mem_of_getElem? (i := 1) rfl), _, rfl, rfl⟩
theorem ceX5_isLeft : rf_ceV mX5_isLeft 2 5 := ⟨⟨by decide +kernel, iw_16 _ (List.mem_of_getElem? (i := 15) rfl), iw_2 _ (List.mem_of_getElem? (i := 0) rfl), ⟨by decide +kernel, by decide +kernel, by decide +kernel⟩, rfl, rfl⟩, iw_16 _ (List.mem_of_getElem? (i := 13) rfl), iw_16 _ (List.mem_of_getElem? (i := 14) rfl), _, rfl, rfl⟩
theorem ceX5_knowers : rf_ceV mX5_knowers 1 5 := ⟨⟨by decide +kernel, iw_18 _ (List.mem_of_getElem? (i := 22) rfl), iw_2 _ (List.mem_of_getElem? (i := 0) rfl), ⟨by decide +kernel, by decide +kernel, by decide +kernel⟩, rfl, rfl⟩, iw_18 _ (List.mem_of_getElem? (i := 20) rfl), iw_18 _ (List.mem_of_getElem? (i := 21) rfl), _, rfl, rfl⟩
theorem ceX5_knowersOf : rf_ceV mX5_knowersOf 2 5 := ⟨⟨by decide +kernel, iw_19 _ (List.mem_of_getElem? (i := 23) rfl), iw_2 _ (List.mem_of_getElem? (i := 0) rfl), ⟨by decide +kernel, by decide +kernel, by decide +kernel⟩, rfl, rfl⟩, iw_19 _ (List.mem_of_getElem? (i := 21) rfl), iw_19 _ (List.mem_of_getElem? (i := 22) rfl), _, rfl, rfl⟩
theorem ceX5_knowsAny : rf_ceV mX5_knowsAny 2 5 := ⟨⟨by decide +kernel, iw_19 _ (List.mem_of_getElem? (i := 2) rfl), iw_2 _ (List.mem_of_getElem? (i := 0) rfl), ⟨by decide +kernel, by decide +kernel, by decide +kernel⟩, rfl, rfl⟩, iw_19 _ (List.mem_of_getElem? (i := 0) rfl), iw_19 _ (List.mem_of_getElem? (i := 1) rfl), _, rfl, rfl⟩
theorem ceX5_learn : rf_ceV mX5_learn 3 5 := ⟨⟨by decide +kernel, iw_25 _ (List.mem_of_getElem? (i := 5) rfl), iw_2 _ (List.mem_of_getElem? (i := 0) rfl), ⟨by decide +kernel, by decide +kernel, by decide +kernel⟩, rfl, rfl⟩, iw_25 _ (List.mem_of_getElem? (i := 3) rfl), iw_25 _ (List.mem_of_getElem? (i := 4) rfl), _, rfl, rfl⟩
theorem ceX5_linesKnown : rf_ceV mX5_linesKnown 1 5 := ⟨⟨by decide +kernel, iw_21 _ (List.mem_of_getElem? (i := 17) rfl), iw_2 _ (List.mem_of_getElem? (i := 0) rfl), ⟨by decide +kernel, by decide +kernel, by decide +kernel⟩, rfl, rfl⟩, iw_21 _ (List.mem_of_getElem? (i := 15) rfl), iw_21 _ (List.mem_of_getElem? (i := 16) rfl), _, rfl, rfl⟩
theorem ceX5_liveByDraws : rf_ceV mX5_liveByDraws 1 5 := ⟨⟨by decide +kernel, iw_29 _ (List.mem_of_getElem? (i := 2) rfl), iw_2 _ (List.mem_of_getElem? (i := 0) rfl), ⟨by decide +kernel, by decide +kernel, by decide +kernel⟩, rfl, rfl⟩, iw_29 _ (List.mem_of_getElem? (i := 0) rfl), iw_29 _ (List.mem_of_getElem? (i := 1) rfl), _, rfl, rfl⟩
theorem ceX5_open : rf_ceV mX5_open 0 5 := ⟨⟨by decide +kernel, iw_12 _ (List.mem_of_getElem? (i := 19) rfl), iw_2 _ (List.mem_of_getElem? (i := 0) rfl), ⟨by decide +kernel, by decide +kernel, by decide +kernel⟩, rfl, rfl⟩, iw_12 _ (List.mem_of_getElem? (i := 17) rfl), iw_12 _ (List.mem_of_getElem? (i := 18) rfl), _, rfl, rfl⟩
theorem ceX5_pagesLeft : rf_ceV mX5_pagesLeft 1 5 := ⟨⟨by decide +kernel, iw_18 _ (List.mem_of_getElem? (i := 18) rfl), iw_2 _ (List.mem_of_getElem? (i := 0) rfl), ⟨by decide +kernel, by decide +kernel, by decide +kernel⟩, rfl, rfl⟩, iw_18 _ (List.mem_of_getElem? (i := 16) rfl), iw_18 _ (List.mem_of_getElem? (i := 17) rfl), _, rfl, rfl⟩
theorem ceX5_pagesLeftWith : rf_ceV mX5_pagesLeftWith 2 5 := ⟨⟨by decide +kernel, iw_16 _ (List.mem_of_getElem? (i := 11) rfl), iw_2 _ (List.mem_of_getElem? (i := 0) rfl), ⟨by decide +kernel, by decide +kernel, by decide +kernel⟩, rfl, rfl⟩, iw_16 _ (List.mem_of_getElem? (i := 9) rfl), iw_16 _ (List.mem_of_getElem? (i := 10) rfl), _, rfl, rfl⟩
theorem ceX5_passDusks : rf_ceV mX5_passDusks 1 5 := ⟨⟨by decide +kernel, iw_28 _ (List.mem_of_getElem? (i := 9) rfl), iw_2 _ (List.mem_of_getElem? (i := 0) rfl), ⟨by decide +kernel, by decide +kernel, by decide +kernel⟩, rfl, rfl⟩, iw_28 _ (List.mem_of_getElem? (i := 7) rfl), iw_28 _ (List.mem_of_getElem? (i := 8) rfl), _, rfl, rfl⟩
theorem ceX5_readPage : rf_ceV mX5_readPage 2 5 := ⟨⟨by decide +kernel, iw_24 _ (List.mem_of_getElem? (i := 20) rfl), iw_2 _ (List.mem_of_getElem? (i := 0) rfl), ⟨by decide +kernel, by decide +kernel, by decide +kernel⟩, rfl, rfl⟩, iw_24 _ (List.mem_of_getElem? (i := 18) rfl), iw_24 _ (List.mem_of_getElem? (i := 19) rfl), _, rfl, rfl⟩
theorem ceX5_trueKnowers : rf_ceV mX5_trueKnowers 1 5 := ⟨⟨by decide +kernel, iw_34 _ (List.mem_of_getElem? (i := 21) rfl), iw_2 _ (List.mem_of_getElem? (i := 0) rfl), ⟨by decide +kernel, by decide +kernel, by decide +kernel⟩, rfl, rfl⟩, iw_34 _ (List.mem_of_getElem? (i := 19) rfl), iw_34 _ (List.mem_of_getElem? (i := 20) rfl), _, rfl, rfl⟩
theorem ceX5_truePages : rf_ceV mX5_truePages 1 5 := ⟨⟨by decide +kernel, iw_16 _ (List.mem_of_getElem? (i := 7) rfl), iw_2 _ (List.mem_of_getElem? (i := 0) rfl), ⟨by decide +kernel, by decide +kernel, by decide +kernel⟩, rfl, rfl⟩, iw_16 _ (List.mem_of_getElem? (i := 5) rfl), iw_16 _ (List.mem_of_getElem? (i := 6) rfl), _, rfl, rfl⟩
theorem ceX5_trueReadingsLeft : rf_ceV mX5_trueReadingsLeft 1 5 := ⟨⟨by decide +kernel, iw_35 _ (List.mem_of_getElem? (i := 10) rfl), iw_2 _ (List.mem_of_getElem? (i := 0) rfl), ⟨by decide +kernel, by decide +kernel, by decide +kernel⟩, rfl, rfl⟩, iw_35 _ (List.mem_of_getElem? (i := 8) rfl), iw_35 _ (List.mem_of_getElem? (i := 9) rfl), _, rfl, rfl⟩
theorem ceX5_variantAt : rf_ceV mX5_variantAt 3 5 := ⟨⟨by decide +kernel, iw_17 _ (List.mem_of_getElem? (i := 3) rfl), iw_2 _ (List.mem_of_getElem? (i := 0) rfl), ⟨by decide +kernel, by decide +kernel, by decide +kernel⟩, rfl, rfl⟩, iw_17 _ (List.mem_of_getElem? (i := 1) rfl), iw_17 _ (List.mem_of_getElem? (i := 2) rfl), _, rfl, rfl⟩
theorem ceX5_variantKnown : rf_ceV mX5_variantKnown 2 5 := ⟨⟨by decide +kernel, iw_19 _ (List.mem_of_getElem? (i := 6) rfl), iw_2 _ (List.mem_of_getElem? (i := 0) rfl), ⟨by decide +kernel, by decide +kernel, by decide +kernel⟩, rfl, rfl⟩, iw_19 _ (List.mem_of_getElem? (i := 4) rfl), iw_19 _ (List.mem_of_getElem? (i := 5) rfl), _, rfl, rfl⟩
theorem ceX5_voteOn : rf_ceV mX5_voteOn 1 5 := ⟨⟨by decide +kernel, iw_19 _ (List.mem_of_getElem? (i := 10) rfl), iw_2 _ (List.mem_of_getElem? (i := 0) rfl), ⟨by decide +kernel, by decide +kernel, by decide +kernel⟩, rfl, rfl⟩, iw_19 _ (List.mem_of_getElem? (i := 8) rfl), iw_19 _ (List.mem_of_getElem? (i := 9) rfl), _, rfl, rfl⟩
theorem ceX6_best : rf_ceV mX6_best 2 6 := ⟨⟨by decide +kernel, iw_32 _ (List.mem_of_getElem? (i := 18) rfl), iw_1 _ (List.mem_of_getElem? (i := 2) rfl), ⟨by decide +kernel, by decide +kernel, by decide +kernel⟩, rfl, rfl⟩, iw_32 _ (List.mem_of_getElem? (i := 16) rfl), iw_32 _ (List.mem_of_getElem? (i := 17) rfl), _, rfl, rfl⟩
theorem ceX6_chooseFor : rf_ceV mX6_chooseFor 2 6 := ⟨⟨by decide +kernel, iw_33 _ (List.mem_of_getElem? (i := 5) rfl), iw_1 _ (List.mem_of_getElem? (i := 2) rfl), ⟨by decide +kernel, by decide +kernel, by decide +kernel⟩, rfl, rfl⟩, iw_33 _ (List.mem_of_getElem? (i := 3) rfl), iw_33 _ (List.mem_of_getElem? (i := 4) rfl), _, rfl, rfl⟩
theorem ceX6_claim : rf_ceV mX6_claim 3 6 := ⟨⟨by decide +kernel, iw_37 _ (List.mem_of_getElem? (i := 4) rfl), iw_1 _ (List.mem_of_getElem? (i := 2) rfl), ⟨by decide +kernel, by decide +kernel, by decide +kernel⟩, rfl, rfl⟩, iw_37 _ (List.mem_of_getElem? (i := 2) rfl), iw_37 _ (List.mem_of_getElem? (i := 3) rfl), _, rfl, rfl⟩
theorem ceX6_copy : rf_ceV mX6_copy 2 6 := ⟨⟨by decide +kernel, iw_25 _ (List.mem_of_getElem? (i := 22) rfl), iw_1 _ (List.mem_of_getElem? (i := 2) rfl), ⟨by decide +kernel, by decide +kernel, by decide +kernel⟩, rfl, rfl⟩, iw_25 _ (List.mem_of_getElem? (i := 20) rfl), iw_25 _ (List.mem_of_getElem? (i := 21) rfl), _, rfl, rfl⟩
theorem ceX6_dusk : rf_ceV mX6_dusk 1 6 := ⟨⟨by decide +kernel, iw_28 _ (List.mem_of_getElem? (i := 5) rfl), iw_1 _ (List.mem_of_getElem? (i := 2) rfl), ⟨by decide +kernel, by decide +kernel, by decide +kernel⟩, rfl, rfl⟩, iw_28 _ (List.mem_of_getElem? (i := 3) rfl), iw_28 _ (List.mem_of_getElem? (i := 4) rfl), _, rfl, rfl⟩
theorem ceX6_fault : rf_ceV mX6_fault 0 6 := ⟨⟨by decide +kernel, iw_15 _ (List.mem_of_getElem? (i := 3) rfl), iw_1 _ (List.mem_of_getElem? (i := 2) rfl), ⟨by decide +kernel, by decide +kernel, by decide +kernel⟩, rfl, rfl⟩, iw_15 _ (List.mem_of_getElem? (i := 1) rfl), iw_15 _ (List.mem_of_getElem? (i := 2) rfl), _, rfl, rfl⟩
theorem ceX6_feed : rf_ceV mX6_feed 2 6 := ⟨⟨by decide +kernel, iw_6 _ (List.mem_of_getElem? (i := 6) rfl), iw_1 _ (List.mem_of_getElem? (i := 2) rfl), ⟨by decide +kernel, by decide +kernel, by decide +kernel⟩, rfl, rfl⟩, iw_6 _ (List.mem_of_getElem? (i := 4) rfl), iw_6 _ (List.mem_of_getElem? (i := 5) rfl), _, rfl, rfl⟩
theorem ceX6_fewestToKnow : rf_ceV mX6_fewestToKnow 2 6 := ⟨⟨by decide +kernel, iw_34 _ (List.mem_of_getElem? (i := 17) rfl), iw_1 _ (List.mem_of_getElem? (i := 2) rfl), ⟨by decide +kernel, by decide +kernel, by decide +kernel⟩, rfl, rfl⟩, iw_34 _ (List.mem_of_getElem? (i := 15) rfl), iw_34 _ (List.mem_of_getElem? (i := 16) rfl), _, rfl, rfl⟩
theorem ceX6_forget : rf_ceV mX6_forget 0 6 := ⟨⟨by decide +kernel, iw_31 _ (List.mem_of_getElem? (i := 1) rfl), iw_1 _ (List.mem_of_getElem? (i := 2) rfl), ⟨by decide +kernel, by decide +kernel, by decide +kernel⟩, rfl, rfl⟩, iw_30 _ (List.mem_of_getElem? (i := 23) rfl), iw_31 _ (List.mem_of_getElem? (i := 0) rfl), _, rfl, rfl⟩
theorem ceX6_goBack : rf_ceV mX6_goBack 1 6 := ⟨⟨by decide +kernel, iw_41 _ (List.mem_of_getElem? (i := 1) rfl), iw_1 _ (List.mem_of_getElem? (i := 2) rfl), ⟨by decide +kernel, by decide +kernel, by decide +kernel⟩, rfl, rfl⟩, iw_40 _ (List.mem_of_getElem? (i := 23) rfl), iw_41 _ (List.mem_of_getElem? (i := 0) rfl), _, rfl, rfl⟩
theorem ceX6_grant : rf_ceV mX6_grant 1 6 := ⟨⟨by decide +kernel, iw_31 _ (List.mem_of_getElem? (i := 9) rfl), iw_1 _ (List.mem_of_getElem? (i := 2) rfl), ⟨by decide +kernel, by decide +kernel, by decide +kernel⟩, rfl, rfl⟩, iw_31 _ (List.mem_of_getElem? (i := 7) rfl), iw_31 _ (List.mem_of_getElem? (i := 8) rfl), _, rfl, rfl⟩
theorem ceX6_has : rf_ceS mX6_has 2 := ⟨⟨by decide +kernel, iw_31 _ (List.mem_of_getElem? (i := 18) rfl), iw_1 _ (List.mem_of_getElem? (i := 2) rfl), ⟨by decide +kernel, by decide +kernel, by decide +kernel⟩, rfl, rfl⟩, iw_31 _ (List.mem_of_getElem? (i := 17) rfl)⟩
theorem ceX6_isSetOf : rf_ceS mX6_isSetOf 2 := ⟨⟨by decide +kernel, iw_31 _ (List.mem_of_getElem? (i := 12) rfl), iw_1 _ (List.mem_of_getElem? (i := 2) rfl), ⟨by decide +kernel, by decide +kernel, by decide +kernel⟩, rfl, rfl⟩, iw_31 _ (List.mem_of_getElem? (i := 11) rfl)⟩
theorem ceX6_judge : rf_ceV mX6_judge 0 6 := ⟨⟨by decide +kernel, iw_39 _ (List.mem_of_getElem? (i := 15) rfl), iw_1 _ (List.mem_of_getElem? (i := 2) rfl), ⟨by decide +kernel, by decide +kernel, by decide +kernel⟩, rfl, rfl⟩, iw_39 _ (List.mem_of_getElem? (i := 13) rfl), iw_39 _ (List.mem_of_getElem? (i := 14) rfl), _, rfl, rfl⟩
theorem ceX6_keep : rf_ceV mX6_keep 1 6 := ⟨⟨by decide +kernel, iw_40 _ (List.mem_of_getElem? (i := 7) rfl), iw_1 _ (List.mem_of_getElem? (i := 2) rfl), ⟨by decide +kernel, by decide +kernel, by decide +kernel⟩, rfl, rfl⟩, iw_40 _ (List.mem_of_getElem? (i := 5) rfl), iw_40 _ (List.mem_of_getElem? (i := 6) rfl), _, rfl, rfl⟩
theorem ceX6_knows : rf_ceV mX6_knows 3 6 := ⟨⟨by decide +kernel, iw_23 _ (List.mem_of_getElem? (i := 12) rfl), iw_1 _ (List.mem_of_getElem? (i := 2) rfl), ⟨by decide +kernel, by decide +kernel, by decide +kernel⟩, rfl, rfl⟩, iw_23 _ (List.mem_of_getElem? (i := 10) rfl), iw_23 _ (List.mem_of_getElem? (i := 11) rfl), _, rfl, rfl⟩
theorem ceX6_library : rf_ceV mX6_library 0 6 := ⟨⟨by decide +kernel, iw_7 _ (List.mem_of_getElem? (i := 5) rfl), iw_1 _ (List.mem_of_getElem? (i := 2) rfl), ⟨by decide +kernel, by decide +kernel, by decide +kernel⟩, rfl, rfl⟩, iw_7 _ (List.mem_of_getElem? (i := 3) rfl), iw_7 _ (List.mem_of_getElem? (i := 4) rfl), _, rfl, rfl⟩
theorem ceX6_life : rf_ceV mX6_life 3 6 := ⟨⟨by decide +kernel, iw_36 _ (List.mem_of_getElem? (i := 5) rfl), iw_1 _ (List.mem_of_getElem? (i := 2) rfl), ⟨by decide +kernel, by decide +kernel, by decide +kernel⟩, rfl, rfl⟩, iw_36 _ (List.mem_of_getElem? (i := 3) rfl), iw_36 _ (List.mem_of_getElem? (i := 4) rfl), _, rfl, rfl⟩
theorem ceX6_line : rf_ceV mX6_line 2 6 := ⟨⟨by decide +kernel, iw_18 _ (List.mem_of_getElem? (i := 6) rfl), iw_1 _ (List.mem_of_getElem? (i := 2) rfl), ⟨by decide +kernel, by decide +kernel, by decide +kernel⟩, rfl, rfl⟩, iw_18 _ (List.mem_of_getElem? (i := 4) rfl), iw_18 _ (List.mem_of_getElem? (i := 5) rfl), _, rfl, rfl⟩
theorem ceX6_note : rf_ceV mX6_note 1 6 := ⟨⟨by decide +kernel, iw_38 _ (List.mem_of_getElem? (i := 22) rfl), iw_1 _ (List.mem_of_getElem? (i := 2) rfl), ⟨by decide +kernel, by decide +kernel, by decide +kernel⟩, rfl, rfl⟩, iw_38 _ (List.mem_of_getElem? (i := 20) rfl), iw_38 _ (List.mem_of_getElem? (i := 21) rfl), _, rfl, rfl⟩
theorem ceX6_page : rf_ceV mX6_page 2 6 := ⟨⟨by decide +kernel, iw_22 _ (List.mem_of_getElem? (i := 9) rfl), iw_1 _ (List.mem_of_getElem? (i := 2) rfl), ⟨by decide +kernel, by decide +kernel, by decide +kernel⟩, rfl, rfl⟩, iw_22 _ (List.mem_of_getElem? (i := 7) rfl), iw_22 _ (List.mem_of_getElem? (i := 8) rfl), _, rfl, rfl⟩
theorem ceX6_pagesAllow : rf_ceV mX6_pagesAllow 2 6 := ⟨⟨by decide +kernel, iw_35 _ (List.mem_of_getElem? (i := 6) rfl), iw_1 _ (List.mem_of_getElem? (i := 2) rfl), ⟨by decide +kernel, by decide +kernel, by decide +kernel⟩, rfl, rfl⟩, iw_35 _ (List.mem_of_getElem? (i := 4) rfl), iw_35 _ (List.mem_of_getElem? (i := 5) rfl), _, rfl, rfl⟩
theorem ceX6_read : rf_ceV mX6_read 2 6 := ⟨⟨by decide +kernel, iw_24 _ (List.mem_of_getElem? (i := 11) rfl), iw_1 _ (List.mem_of_getElem? (i := 2) rfl), ⟨by decide +kernel, by decide +kernel, by decide +kernel⟩, rfl, rfl⟩, iw_24 _ (List.mem_of_getElem? (i := 9) rfl), iw_24 _ (List.mem_of_getElem? (i := 10) rfl), _, rfl, rfl⟩
theorem ceX6_reader : rf_ceV mX6_reader 2 6 := ⟨⟨by decide +kernel, iw_21 _ (List.mem_of_getElem? (i := 7) rfl), iw_1 _ (List.mem_of_getElem? (i := 2) rfl), ⟨by decide +kernel, by decide +kernel, by decide +kernel⟩, rfl, rfl⟩, iw_21 _ (List.mem_of_getElem? (i := 5) rfl), iw_21 _ (List.mem_of_getElem? (i := 6) rfl), _, rfl, rfl⟩
theorem ceX6_reading : rf_ceV mX6_reading 2 6 := ⟨⟨by decide +kernel, iw_23 _ (List.mem_of_getElem? (i := 23) rfl), iw_1 _ (List.mem_of_getElem? (i := 2) rfl), ⟨by decide +kernel, by decide +kernel, by decide +kernel⟩, rfl, rfl⟩, iw_23 _ (List.mem_of_getElem? (i := 21) rfl), iw_23 _ (List.mem_of_getElem? (i := 22) rfl), _, rfl, rfl⟩
theorem ceX6_request : rf_ceV mX6_request 3 6 := ⟨⟨by decide +kernel, iw_30 _ (List.mem_of_getElem? (i := 11) rfl), iw_1 _ (List.mem_of_getElem? (i := 2) rfl), ⟨by decide +kernel, by decide +kernel, by decide +kernel⟩, rfl, rfl⟩, iw_30 _ (List.mem_of_getElem? (i := 9) rfl), iw_30 _ (List.mem_of_getElem? (i := 10) rfl), _, rfl, rfl⟩
theorem ceX6_right : rf_ceV mX6_right 1 6 := ⟨⟨by decide +kernel, iw_36 _ (List.mem_of_getElem? (i := 17) rfl), iw_1 _ (List.mem_of_getElem? (i := 2) rfl), ⟨by decide +kernel, by decide +kernel, by decide +kernel⟩, rfl, rfl⟩, iw_36 _ (List.mem_of_getElem? (i := 15) rfl), iw_36 _ (List.mem_of_getElem? (i := 16) rfl), _, rfl, rfl⟩
theorem ceX6_run : rf_ceV mX6_run 1 6 := ⟨⟨by decide +kernel, iw_28 _ (List.mem_of_getElem? (i := 22) rfl), iw_1 _ (List.mem_of_getElem? (i := 2) rfl), ⟨by decide +kernel, by decide +kernel, by decide +kernel⟩, rfl, rfl⟩, iw_28 _ (List.mem_of_getElem? (i := 20) rfl), iw_28 _ (List.mem_of_getElem? (i := 21) rfl), _, rfl, rfl⟩
theorem ceX6_seed : rf_ceV mX6_seed 1 6 := ⟨⟨by decide +kernel, iw_39 _ (List.mem_of_getElem? (i := 23) rfl), iw_1 _ (List.mem_of_getElem? (i := 2) rfl), ⟨by decide +kernel, by decide +kernel, by decide +kernel⟩, rfl, rfl⟩, iw_39 _ (List.mem_of_getElem? (i := 21) rfl), iw_39 _ (List.mem_of_getElem? (i := 22) rfl), _, rfl, rfl⟩
theorem ceX6_span : rf_ceV mX6_span 3 6 := ⟨⟨by decide +kernel, iw_38 _ (List.mem_of_getElem? (i := 8) rfl), iw_1 _ (List.mem_of_getElem? (i := 2) rfl), ⟨by decide +kernel, by decide +kernel, by decide +kernel⟩, rfl, rfl⟩, iw_38 _ (List.mem_of_getElem? (i := 6) rfl), iw_38 _ (List.mem_of_getElem? (i := 7) rfl), _, rfl, rfl⟩
theorem ceX6_teach : rf_ceV mX6_teach 3 6 := ⟨⟨by decide +kernel, iw_27 _ (List.mem_of_getElem? (i := 20) rfl), iw_1 _ (List.mem_of_getElem? (i := 2) rfl), ⟨by decide +kernel, by decide +kernel, by decide +kernel⟩, rfl, rfl⟩, iw_27 _ (List.mem_of_getElem? (i := 18) rfl), iw_27 _ (List.mem_of_getElem? (i := 19) rfl), _, rfl, rfl⟩
theorem ceX6_tear : rf_ceV mX6_tear 0 6 := ⟨⟨by decide +kernel, iw_39 _ (List.mem_of_getElem? (i := 7) rfl), iw_1 _ (List.mem_of_getElem? (i := 2) rfl), ⟨by decide +kernel, by decide +kernel, by decide +kernel⟩, rfl, rfl⟩, iw_39 _ (List.mem_of_getElem? (i := 5) rfl), iw_39 _ (List.mem_of_getElem? (i := 6) rfl), _, rfl, rfl⟩
theorem ceX6_toKnow : rf_ceV mX6_toKnow 2 6 := ⟨⟨by decide +kernel, iw_34 _ (List.mem_of_getElem? (i := 12) rfl), iw_1 _ (List.mem_of_getElem? (i := 2) rfl), ⟨by decide +kernel, by decide +kernel, by decide +kernel⟩, rfl, rfl⟩, iw_34 _ (List.mem_of_getElem? (i := 10) rfl), iw_34 _ (List.mem_of_getElem? (i := 11) rfl), _, rfl, rfl⟩
theorem ceX6_told : rf_ceV mX6_told 1 6 := ⟨⟨by decide +kernel, iw_15 _ (List.mem_of_getElem? (i := 12) rfl), iw_1 _ (List.mem_of_getElem? (i := 2) rfl), ⟨by decide +kernel, by decide +kernel, by decide +kernel⟩, rfl, rfl⟩, iw_15 _ (List.mem_of_getElem? (i := 10) rfl), iw_15 _ (List.mem_of_getElem? (i := 11) rfl), _, rfl, rfl⟩
theorem ceX6_whence : rf_ceV mX6_whence 2 6 := ⟨⟨by decide +kernel, iw_37 _ (List.mem_of_getElem? (i := 20) rfl), iw_1 _ (List.mem_of_getElem? (i := 2) rfl), ⟨by decide +kernel, by decide +kernel, by decide +kernel⟩, rfl, rfl⟩, iw_37 _ (List.mem_of_getElem? (i := 18) rfl), iw_37 _ (List.mem_of_getElem? (i := 19) rfl), _, rfl, rfl⟩
theorem ceX6_where : rf_ceV mX6_where 1 6 := ⟨⟨by decide +kernel, iw_29 _ (List.mem_of_getElem? (i := 23) rfl), iw_1 _ (List.mem_of_getElem? (i := 2) rfl), ⟨by decide +kernel, by decide +kernel, by decide +kernel⟩, rfl, rfl⟩, iw_29 _ (List.mem_of_getElem? (i := 21) rfl), iw_29 _ (List.mem_of_getElem? (i := 22) rfl), _, rfl, rfl⟩
theorem ceX6_write : rf_ceV mX6_write 2 6 := ⟨⟨by decide +kernel, iw_27 _ (List.mem_of_getElem? (i := 12) rfl), iw_1 _ (List.mem_of_getElem? (i := 2) rfl), ⟨by decide +kernel, by decide +kernel, by decide +kernel⟩, rfl, rfl⟩, iw_27 _ (List.mem_of_getElem? (i := 10) rfl), iw_27 _ (List.mem_of_getElem? (i := 11) rfl), _, rfl, rfl⟩
theorem ceX7_best : rf_ceV mX7_best 2 7 := ⟨⟨by decide +kernel, iw_33 _ (List.mem_of_getElem? (i := 23) rfl), iw_1 _ (List.mem_of_getElem? (i := 5) rfl), ⟨by decide +kernel, by decide +kernel, by decide +kernel⟩, rfl, rfl⟩, iw_33 _ (List.mem_of_getElem? (i := 21) rfl), iw_33 _ (List.mem_of_getElem? (i := 22) rfl), _, rfl, rfl⟩
theorem ceX7_claim : rf_ceV mX7_claim 3 7 := ⟨⟨by decide +kernel, iw_37 _ (List.mem_of_getElem? (i := 15) rfl), iw_1 _ (List.mem_of_getElem? (i := 5) rfl), ⟨by decide +kernel, by decide +kernel, by decide +kernel⟩, rfl, rfl⟩, iw_37 _ (List.mem_of_getElem? (i := 13) rfl), iw_37 _ (List.mem_of_getElem? (i := 14) rfl), _, rfl, rfl⟩
theorem ceX7_copy : rf_ceV mX7_copy 2 7 := ⟨⟨by decide +kernel, iw_26 _ (List.mem_of_getElem? (i := 20) rfl), iw_1 _ (List.mem_of_getElem? (i := 5) rfl), ⟨by decide +kernel, by decide +kernel, by decide +kernel⟩, rfl, rfl⟩, iw_26 _ (List.mem_of_getElem? (i := 18) rfl), iw_26 _ (List.mem_of_getElem? (i := 19) rfl), _, rfl, rfl⟩
theorem ceX7_copyRow : rf_ceV mX7_copyRow 2 7 := ⟨⟨by decide +kernel, iw_34 _ (List.mem_of_getElem? (i := 8) rfl), iw_1 _ (List.mem_of_getElem? (i := 5) rfl), ⟨by decide +kernel, by decide +kernel, by decide +kernel⟩, rfl, rfl⟩, iw_34 _ (List.mem_of_getElem? (i := 6) rfl), iw_34 _ (List.mem_of_getElem? (i := 7) rfl), _, rfl, rfl⟩
theorem ceX7_darken : rf_ceV mX7_darken 1 7 := ⟨⟨by decide +kernel, iw_28 _ (List.mem_of_getElem? (i := 18) rfl), iw_1 _ (List.mem_of_getElem? (i := 5) rfl), ⟨by decide +kernel, by decide +kernel, by decide +kernel⟩, rfl, rfl⟩, iw_28 _ (List.mem_of_getElem? (i := 16) rfl), iw_28 _ (List.mem_of_getElem? (i := 17) rfl), _, rfl, rfl⟩
theorem ceX7_draw : rf_ceV mX7_draw 2 7 := ⟨⟨by decide +kernel, iw_27 _ (List.mem_of_getElem? (i := 4) rfl), iw_1 _ (List.mem_of_getElem? (i := 5) rfl), ⟨by decide +kernel, by decide +kernel, by decide +kernel⟩, rfl, rfl⟩, iw_27 _ (List.mem_of_getElem? (i := 2) rfl), iw_27 _ (List.mem_of_getElem? (i := 3) rfl), _, rfl, rfl⟩
theorem ceX7_dusk : rf_ceV mX7_dusk 1 7 := ⟨⟨by decide +kernel, iw_28 _ (List.mem_of_getElem? (i := 13) rfl), iw_1 _ (List.mem_of_getElem? (i := 5) rfl), ⟨by decide +kernel, by decide +kernel, by decide +kernel⟩, rfl, rfl⟩, iw_28 _ (List.mem_of_getElem? (i := 11) rfl), iw_28 _ (List.mem_of_getElem? (i := 12) rfl), _, rfl, rfl⟩
theorem ceX7_fault : rf_ceV mX7_fault 0 7 := ⟨⟨by decide +kernel, iw_15 _ (List.mem_of_getElem? (i := 8) rfl), iw_1 _ (List.mem_of_getElem? (i := 5) rfl), ⟨by decide +kernel, by decide +kernel, by decide +kernel⟩, rfl, rfl⟩, iw_15 _ (List.mem_of_getElem? (i := 6) rfl), iw_15 _ (List.mem_of_getElem? (i := 7) rfl), _, rfl, rfl⟩
theorem ceX7_feed : rf_ceV mX7_feed 2 7 := ⟨⟨by decide +kernel, iw_6 _ (List.mem_of_getElem? (i := 17) rfl), iw_1 _ (List.mem_of_getElem? (i := 5) rfl), ⟨by decide +kernel, by decide +kernel, by decide +kernel⟩, rfl, rfl⟩, iw_6 _ (List.mem_of_getElem? (i := 15) rfl), iw_6 _ (List.mem_of_getElem? (i := 16) rfl), _, rfl, rfl⟩
theorem ceX7_fewest : rf_ceV mX7_fewest 2 7 := ⟨⟨by decide +kernel, iw_35 _ (List.mem_of_getElem? (i := 18) rfl), iw_1 _ (List.mem_of_getElem? (i := 5) rfl), ⟨by decide +kernel, by decide +kernel, by decide +kernel⟩, rfl, rfl⟩, iw_35 _ (List.mem_of_getElem? (i := 16) rfl), iw_35 _ (List.mem_of_getElem? (i := 17) rfl), _, rfl, rfl⟩
theorem ceX7_forget : rf_ceV mX7_forget 0 7 := ⟨⟨by decide +kernel, iw_31 _ (List.mem_of_getElem? (i := 5) rfl), iw_1 _ (List.mem_of_getElem? (i := 5) rfl), ⟨by decide +kernel, by decide +kernel, by decide +kernel⟩, rfl, rfl⟩, iw_31 _ (List.mem_of_getElem? (i := 3) rfl), iw_31 _ (List.mem_of_getElem? (i := 4) rfl), _, rfl, rfl⟩
theorem ceX7_goBack : rf_ceV mX7_goBack 1 7 := ⟨⟨by decide +kernel, iw_41 _ (List.mem_of_getElem? (i := 5) rfl), iw_1 _ (List.mem_of_getElem? (i := 5) rfl), ⟨by decide +kernel, by decide +kernel, by decide +kernel⟩, rfl, rfl⟩, iw_41 _ (List.mem_of_getElem? (i := 3) rfl), iw_41 _ (List.mem_of_getElem? (i := 4) rfl), _, rfl, rfl⟩
theorem ceX7_grant : rf_ceV mX7_grant 1 7 := ⟨⟨by decide +kernel, iw_32 _ (List.mem_of_getElem? (i := 3) rfl), iw_1 _ (List.mem_of_getElem? (i := 5) rfl), ⟨by decide +kernel, by decide +kernel, by decide +kernel⟩, rfl, rfl⟩, iw_32 _ (List.mem_of_getElem? (i := 1) rfl), iw_32 _ (List.mem_of_getElem? (i := 2) rfl), _, rfl, rfl⟩
theorem ceX7_grantAll : rf_ceV mX7_grantAll 2 7 := ⟨⟨by decide +kernel, iw_32 _ (List.mem_of_getElem? (i := 7) rfl), iw_1 _ (List.mem_of_getElem? (i := 5) rfl), ⟨by decide +kernel, by decide +kernel, by decide +kernel⟩, rfl, rfl⟩, iw_32 _ (List.mem_of_getElem? (i := 5) rfl), iw_32 _ (List.mem_of_getElem? (i := 6) rfl), _, rfl, rfl⟩
theorem ceX7_has : rf_ceS mX7_has 2 := ⟨⟨by decide +kernel, iw_32 _ (List.mem_of_getElem? (i := 10) rfl), iw_1 _ (List.mem_of_getElem? (i := 5) rfl), ⟨by decide +kernel, by decide +kernel, by decide +kernel⟩, rfl, rfl⟩, iw_32 _ (List.mem_of_getElem? (i := 9) rfl)⟩
theorem ceX7_here : rf_ceV mX7_here 0 7 := ⟨⟨by decide +kernel, iw_13 _ (List.mem_of_getElem? (i := 16) rfl), iw_1 _ (List.mem_of_getElem? (i := 5) rfl), ⟨by decide +kernel, by decide +kernel, by decide +kernel⟩, rfl, rfl⟩, iw_13 _ (List.mem_of_getElem? (i := 14) rfl), iw_13 _ (List.mem_of_getElem? (i := 15) rfl), _, rfl, rfl⟩
theorem ceX7_in : rf_ceS mX7_in 3 := ⟨⟨by decide +kernel, iw_7 _ (List.mem_of_getElem? (i := 1) rfl), iw_1 _ (List.mem_of_getElem? (i := 5) rfl), ⟨by decide +kernel, by decide +kernel, by decide +kernel⟩, rfl, rfl⟩, iw_7 _ (List.mem_of_getElem? (i := 0) rfl)⟩
theorem ceX7_isKeptLine : rf_ceV mX7_isKeptLine 2 7 := ⟨⟨by decide +kernel, iw_17 _ (List.mem_of_getElem? (i := 23) rfl), iw_1 _ (List.mem_of_getElem? (i := 5) rfl), ⟨by decide +kernel, by decide +kernel, by decide +kernel⟩, rfl, rfl⟩, iw_17 _ (List.mem_of_getElem? (i := 21) rfl), iw_17 _ (List.mem_of_getElem? (i := 22) rfl), _, rfl, rfl⟩
theorem ceX7_isLine : rf_ceV mX7_isLine 1 7 := ⟨⟨by decide +kernel, iw_20 _ (List.mem_of_getElem? (i := 8) rfl), iw_1 _ (List.mem_of_getElem? (i := 5) rfl), ⟨by decide +kernel, by decide +kernel, by decide +kernel⟩, rfl, rfl⟩, iw_20 _ (List.mem_of_getElem? (i := 6) rfl), iw_20 _ (List.mem_of_getElem? (i := 7) rfl), _, rfl, rfl⟩
theorem ceX7_isPage : rf_ceV mX7_isPage 1 7 := ⟨⟨by decide +kernel, iw_23 _ (List.mem_of_getElem? (i := 4) rfl), iw_1 _ (List.mem_of_getElem? (i := 5) rfl), ⟨by decide +kernel, by decide +kernel, by decide +kernel⟩, rfl, rfl⟩, iw_23 _ (List.mem_of_getElem? (i := 2) rfl), iw_23 _ (List.mem_of_getElem? (i := 3) rfl), _, rfl, rfl⟩
theorem ceX7_isReader : rf_ceV mX7_isReader 1 7 := ⟨⟨by decide +kernel, iw_22 _ (List.mem_of_getElem? (i := 1) rfl), iw_1 _ (List.mem_of_getElem? (i := 5) rfl), ⟨by decide +kernel, by decide +kernel, by decide +kernel⟩, rfl, rfl⟩, iw_21 _ (List.mem_of_getElem? (i := 23) rfl), iw_22 _ (List.mem_of_getElem? (i := 0) rfl), _, rfl, rfl⟩
theorem ceX7_isTrue : rf_ceV mX7_isTrue 2 7 := ⟨⟨by decide +kernel, iw_35 _ (List.mem_of_getElem? (i := 22) rfl), iw_1 _ (List.mem_of_getElem? (i := 5) rfl), ⟨by decide +kernel, by decide +kernel, by decide +kernel⟩, rfl, rfl⟩, iw_35 _ (List.mem_of_getElem? (i := 20) rfl), iw_35 _ (List.mem_of_getElem? (i := 21) rfl), _, rfl, rfl⟩
theorem ceX7_isWord : rf_ceV mX7_isWord 8 7 := ⟨⟨by decide +kernel, iw_14 _ (List.mem_of_getElem? (i := 8) rfl), iw_1 _ (List.mem_of_getElem? (i := 5) rfl), ⟨by decide +kernel, by decide +kernel, by decide +kernel⟩, rfl, rfl⟩, iw_14 _ (List.mem_of_getElem? (i := 6) rfl), iw_14 _ (List.mem_of_getElem? (i := 7) rfl), _, rfl, rfl⟩
theorem ceX7_judge : rf_ceV mX7_judge 0 7 := ⟨⟨by decide +kernel, iw_39 _ (List.mem_of_getElem? (i := 19) rfl), iw_1 _ (List.mem_of_getElem? (i := 5) rfl), ⟨by decide +kernel, by decide +kernel, by decide +kernel⟩, rfl, rfl⟩, iw_39 _ (List.mem_of_getElem? (i := 17) rfl), iw_39 _ (List.mem_of_getElem? (i := 18) rfl), _, rfl, rfl⟩
theorem ceX7_keep : rf_ceV mX7_keep 1 7 := ⟨⟨by decide +kernel, iw_40 _ (List.mem_of_getElem? (i := 21) rfl), iw_1 _ (List.mem_of_getElem? (i := 5) rfl), ⟨by decide +kernel, by decide +kernel, by decide +kernel⟩, rfl, rfl⟩, iw_40 _ (List.mem_of_getElem? (i := 19) rfl), iw_40 _ (List.mem_of_getElem? (i := 20) rfl), _, rfl, rfl⟩
theorem ceX7_keptMany : rf_ceV mX7_keptMany 1 7 := ⟨⟨by decide +kernel, iw_17 _ (List.mem_of_getElem? (i := 19) rfl), iw_1 _ (List.mem_of_getElem? (i := 5) rfl), ⟨by decide +kernel, by decide +kernel, by decide +kernel⟩, rfl, rfl⟩, iw_17 _ (List.mem_of_getElem? (i := 17) rfl), iw_17 _ (List.mem_of_getElem? (i := 18) rfl), _, rfl, rfl⟩
theorem ceX7_kindHere : rf_ceV mX7_kindHere 0 7 := ⟨⟨by decide +kernel, iw_14 _ (List.mem_of_getElem? (i := 23) rfl), iw_1 _ (List.mem_of_getElem? (i := 5) rfl), ⟨by decide +kernel, by decide +kernel, by decide +kernel⟩, rfl, rfl⟩, iw_14 _ (List.mem_of_getElem? (i := 21) rfl), iw_14 _ (List.mem_of_getElem? (i := 22) rfl), _, rfl, rfl⟩
theorem ceX7_know : rf_ceV mX7_know 4 7 := ⟨⟨by decide +kernel, iw_25 _ (List.mem_of_getElem? (i := 18) rfl), iw_1 _ (List.mem_of_getElem? (i := 5) rfl), ⟨by decide +kernel, by decide +kernel, by decide +kernel⟩, rfl, rfl⟩, iw_25 _ (List.mem_of_getElem? (i := 16) rfl), iw_25 _ (List.mem_of_getElem? (i := 17) rfl), _, rfl, rfl⟩
theorem ceX7_knowers : rf_ceV mX7_knowers 1 7 := ⟨⟨by decide +kernel, iw_20 _ (List.mem_of_getElem? (i := 16) rfl), iw_1 _ (List.mem_of_getElem? (i := 5) rfl), ⟨by decide +kernel, by decide +kernel, by decide +kernel⟩, rfl, rfl⟩, iw_20 _ (List.mem_of_getElem? (i := 14) rfl), iw_20 _ (List.mem_of_getElem? (i := 15) rfl), _, rfl, rfl⟩
theorem ceX7_knownBy : rf_ceV mX7_knownBy 1 7 := ⟨⟨by decide +kernel, iw_22 _ (List.mem_of_getElem? (i := 5) rfl), iw_1 _ (List.mem_of_getElem? (i := 5) rfl), ⟨by decide +kernel, by decide +kernel, by decide +kernel⟩, rfl, rfl⟩, iw_22 _ (List.mem_of_getElem? (i := 3) rfl), iw_22 _ (List.mem_of_getElem? (i := 4) rfl), _, rfl, rfl⟩
theorem ceX7_knows : rf_ceV mX7_knows 3 7 := ⟨⟨by decide +kernel, iw_23 _ (List.mem_of_getElem? (i := 19) rfl), iw_1 _ (List.mem_of_getElem? (i := 5) rfl), ⟨by decide +kernel, by decide +kernel, by decide +kernel⟩, rfl, rfl⟩, iw_23 _ (List.mem_of_getElem? (i := 17) rfl), iw_23 _ (List.mem_of_getElem? (i := 18) rfl), _, rfl, rfl⟩
theorem ceX7_lesser : rf_ceS mX7_lesser 3 := ⟨⟨by decide +kernel, iw_36 _ (List.mem_of_getElem? (i := 1) rfl), iw_1 _ (List.mem_of_getElem? (i := 5) rfl), ⟨by decide +kernel, by decide +kernel, by decide +kernel⟩, rfl, rfl⟩, iw_36 _ (List.mem_of_getElem? (i := 0) rfl)⟩
theorem ceX7_library : rf_ceV mX7_library 0 7 := ⟨⟨by decide +kernel, iw_13 _ (List.mem_of_getElem? (i := 2) rfl), iw_1 _ (List.mem_of_getElem? (i := 5) rfl), ⟨by decide +kernel, by decide +kernel, by decide +kernel⟩, rfl, rfl⟩, iw_13 _ (List.mem_of_getElem? (i := 0) rfl), iw_13 _ (List.mem_of_getElem? (i := 1) rfl), _, rfl, rfl⟩
theorem ceX7_life : rf_ceV mX7_life 3 7 := ⟨⟨by decide +kernel, iw_36 _ (List.mem_of_getElem? (i := 11) rfl), iw_1 _ (List.mem_of_getElem? (i := 5) rfl), ⟨by decide +kernel, by decide +kernel, by decide +kernel⟩, rfl, rfl⟩, iw_36 _ (List.mem_of_getElem? (i := 9) rfl), iw_36 _ (List.mem_of_getElem? (i := 10) rfl), _, rfl, rfl⟩
theorem ceX7_line : rf_ceV mX7_line 2 7 := ⟨⟨by decide +kernel, iw_20 _ (List.mem_of_getElem? (i := 3) rfl), iw_1 _ (List.mem_of_getElem? (i := 5) rfl), ⟨by decide +kernel, by decide +kernel, by decide +kernel⟩, rfl, rfl⟩, iw_20 _ (List.mem_of_getElem? (i := 1) rfl), iw_20 _ (List.mem_of_getElem? (i := 2) rfl), _, rfl, rfl⟩
theorem ceX7_make : rf_ceV mX7_make 3 7 := ⟨⟨by decide +kernel, iw_27 _ (List.mem_of_getElem? (i := 0) rfl), iw_1 _ (List.mem_of_getElem? (i := 5) rfl), ⟨by decide +kernel, by decide +kernel, by decide +kernel⟩, rfl, rfl⟩, iw_26 _ (List.mem_of_getElem? (i := 22) rfl), iw_26 _ (List.mem_of_getElem? (i := 23) rfl), _, rfl, rfl⟩
theorem ceX7_note : rf_ceV mX7_note 1 7 := ⟨⟨by decide +kernel, iw_39 _ (List.mem_of_getElem? (i := 2) rfl), iw_1 _ (List.mem_of_getElem? (i := 5) rfl), ⟨by decide +kernel, by decide +kernel, by decide +kernel⟩, rfl, rfl⟩, iw_39 _ (List.mem_of_getElem? (i := 0) rfl), iw_39 _ (List.mem_of_getElem? (i := 1) rfl), _, rfl, rfl⟩
theorem ceX7_one : rf_ceS mX7_one 1 := ⟨⟨by decide +kernel, iw_18 _ (List.mem_of_getElem? (i := 2) rfl), iw_1 _ (List.mem_of_getElem? (i := 5) rfl), ⟨by decide +kernel, by decide +kernel, by decide +kernel⟩, rfl, rfl⟩, iw_18 _ (List.mem_of_getElem? (i := 1) rfl)⟩
theorem ceX7_ones : rf_ceS mX7_ones 1 := ⟨⟨by decide +kernel, iw_20 _ (List.mem_of_getElem? (i := 23) rfl), iw_1 _ (List.mem_of_getElem? (i := 5) rfl), ⟨by decide +kernel, by decide +kernel, by decide +kernel⟩, rfl, rfl⟩, iw_20 _ (List.mem_of_getElem? (i := 22) rfl)⟩
theorem ceX7_page : rf_ceV mX7_page 2 7 := ⟨⟨by decide +kernel, iw_23 _ (List.mem_of_getElem? (i := 0) rfl), iw_1 _ (List.mem_of_getElem? (i := 5) rfl), ⟨by decide +kernel, by decide +kernel, by decide +kernel⟩, rfl, rfl⟩, iw_22 _ (List.mem_of_getElem? (i := 22) rfl), iw_22 _ (List.mem_of_getElem? (i := 23) rfl), _, rfl, rfl⟩
theorem ceX7_pagesOf : rf_ceV mX7_pagesOf 1 7 := ⟨⟨by decide +kernel, iw_20 _ (List.mem_of_getElem? (i := 12) rfl), iw_1 _ (List.mem_of_getElem? (i := 5) rfl), ⟨by decide +kernel, by decide +kernel, by decide +kernel⟩, rfl, rfl⟩, iw_20 _ (List.mem_of_getElem? (i := 10) rfl), iw_20 _ (List.mem_of_getElem? (i := 11) rfl), _, rfl, rfl⟩
theorem ceX7_palest : rf_ceV mX7_palest 2 7 := ⟨⟨by decide +kernel, iw_32 _ (List.mem_of_getElem? (i := 14) rfl), iw_1 _ (List.mem_of_getElem? (i := 5) rfl), ⟨by decide +kernel, by decide +kernel, by decide +kernel⟩, rfl, rfl⟩, iw_32 _ (List.mem_of_getElem? (i := 12) rfl), iw_32 _ (List.mem_of_getElem? (i := 13) rfl), _, rfl, rfl⟩
theorem ceX7_read : rf_ceV mX7_read 2 7 := ⟨⟨by decide +kernel, iw_25 _ (List.mem_of_getElem? (i := 9) rfl), iw_1 _ (List.mem_of_getElem? (i := 5) rfl), ⟨by decide +kernel, by decide +kernel, by decide +kernel⟩, rfl, rfl⟩, iw_25 _ (List.mem_of_getElem? (i := 7) rfl), iw_25 _ (List.mem_of_getElem? (i := 8) rfl), _, rfl, rfl⟩
theorem ceX7_readMany : rf_ceV mX7_readMany 1 7 := ⟨⟨by decide +kernel, iw_23 _ (List.mem_of_getElem? (i := 8) rfl), iw_1 _ (List.mem_of_getElem? (i := 5) rfl), ⟨by decide +kernel, by decide +kernel, by decide +kernel⟩, rfl, rfl⟩, iw_23 _ (List.mem_of_getElem? (i := 6) rfl), iw_23 _ (List.mem_of_getElem? (i := 7) rfl), _, rfl, rfl⟩
theorem ceX7_readPage : rf_ceV mX7_readPage 3 7 := ⟨⟨by decide +kernel, iw_25 _ (List.mem_of_getElem? (i := 14) rfl), iw_1 _ (List.mem_of_getElem? (i := 5) rfl), ⟨by decide +kernel, by decide +kernel, by decide +kernel⟩, rfl, rfl⟩, iw_25 _ (List.mem_of_getElem? (i := 12) rfl), iw_25 _ (List.mem_of_getElem? (i := 13) rfl), _, rfl, rfl⟩
theorem ceX7_reader : rf_ceV mX7_reader 2 7 := ⟨⟨by decide +kernel, iw_21 _ (List.mem_of_getElem? (i := 21) rfl), iw_1 _ (List.mem_of_getElem? (i := 5) rfl), ⟨by decide +kernel, by decide +kernel, by decide +kernel⟩, rfl, rfl⟩, iw_21 _ (List.mem_of_getElem? (i := 19) rfl), iw_21 _ (List.mem_of_getElem? (i := 20) rfl), _, rfl, rfl⟩
theorem ceX7_reading : rf_ceV mX7_reading 2 7 := ⟨⟨by decide +kernel, iw_24 _ (List.mem_of_getElem? (i := 6) rfl), iw_1 _ (List.mem_of_getElem? (i := 5) rfl), ⟨by decide +kernel, by decide +kernel, by decide +kernel⟩, rfl, rfl⟩, iw_24 _ (List.mem_of_getElem? (i := 4) rfl), iw_24 _ (List.mem_of_getElem? (i := 5) rfl), _, rfl, rfl⟩
theorem ceX7_request : rf_ceV mX7_request 3 7 := ⟨⟨by decide +kernel, iw_30 _ (List.mem_of_getElem? (i := 20) rfl), iw_1 _ (List.mem_of_getElem? (i := 5) rfl), ⟨by decide +kernel, by decide +kernel, by decide +kernel⟩, rfl, rfl⟩, iw_30 _ (List.mem_of_getElem? (i := 18) rfl), iw_30 _ (List.mem_of_getElem? (i := 19) rfl), _, rfl, rfl⟩
theorem ceX7_right : rf_ceV mX7_right 1 7 := ⟨⟨by decide +kernel, iw_36 _ (List.mem_of_getElem? (i := 22) rfl), iw_1 _ (List.mem_of_getElem? (i := 5) rfl), ⟨by decide +kernel, by decide +kernel, by decide +kernel⟩, rfl, rfl⟩, iw_36 _ (List.mem_of_getElem? (i := 20) rfl), iw_36 _ (List.mem_of_getElem? (i := 21) rfl), _, rfl, rfl⟩
theorem ceX7_run : rf_ceV mX7_run 1 7 := ⟨⟨by decide +kernel, iw_29 _ (List.mem_of_getElem? (i := 14) rfl), iw_1 _ (List.mem_of_getElem? (i := 5) rfl), ⟨by decide +kernel, by decide +kernel, by decide +kernel⟩, rfl, rfl⟩, iw_29 _ (List.mem_of_getElem? (i := 12) rfl), iw_29 _ (List.mem_of_getElem? (i := 13) rfl), _, rfl, rfl⟩
theorem ceX7_runDays : rf_ceV mX7_runDays 2 7 := ⟨⟨by decide +kernel, iw_29 _ (List.mem_of_getElem? (i := 19) rfl), iw_1 _ (List.mem_of_getElem? (i := 5) rfl), ⟨by decide +kernel, by decide +kernel, by decide +kernel⟩, rfl, rfl⟩, iw_29 _ (List.mem_of_getElem? (i := 17) rfl), iw_29 _ (List.mem_of_getElem? (i := 18) rfl), _, rfl, rfl⟩
theorem ceX7_seed : rf_ceV mX7_seed 1 7 := ⟨⟨by decide +kernel, iw_40 _ (List.mem_of_getElem? (i := 3) rfl), iw_1 _ (List.mem_of_getElem? (i := 5) rfl), ⟨by decide +kernel, by decide +kernel, by decide +kernel⟩, rfl, rfl⟩, iw_40 _ (List.mem_of_getElem? (i := 1) rfl), iw_40 _ (List.mem_of_getElem? (i := 2) rfl), _, rfl, rfl⟩
theorem ceX7_span : rf_ceV mX7_span 3 7 := ⟨⟨by decide +kernel, iw_38 _ (List.mem_of_getElem? (i := 17) rfl), iw_1 _ (List.mem_of_getElem? (i := 5) rfl), ⟨by decide +kernel, by decide +kernel, by decide +kernel⟩, rfl, rfl⟩, iw_38 _ (List.mem_of_getElem? (i := 15) rfl), iw_38 _ (List.mem_of_getElem? (i := 16) rfl), _, rfl, rfl⟩
theorem ceX7_sumBy : rf_ceV mX7_sumBy 2 7 := ⟨⟨by decide +kernel, iw_34 _ (List.mem_of_getElem? (i := 4) rfl), iw_1 _ (List.mem_of_getElem? (i := 5) rfl), ⟨by decide +kernel, by decide +kernel, by decide +kernel⟩, rfl, rfl⟩, iw_34 _ (List.mem_of_getElem? (i := 2) rfl), iw_34 _ (List.mem_of_getElem? (i := 3) rfl), _, rfl, rfl⟩
theorem ceX7_takeClause : rf_ceV mX7_takeClause 0 7 := ⟨⟨by decide +kernel, iw_13 _ (List.mem_of_getElem? (i := 20) rfl), iw_1 _ (List.mem_of_getElem? (i := 5) rfl), ⟨by decide +kernel, by decide +kernel, by decide +kernel⟩, rfl, rfl⟩, iw_13 _ (List.mem_of_getElem? (i := 18) rfl), iw_13 _ (List.mem_of_getElem? (i := 19) rfl), _, rfl, rfl⟩
theorem ceX7_takeNumber : rf_ceV mX7_takeNumber 2 7 := ⟨⟨by decide +kernel, iw_14 _ (List.mem_of_getElem? (i := 16) rfl), iw_1 _ (List.mem_of_getElem? (i := 5) rfl), ⟨by decide +kernel, by decide +kernel, by decide +kernel⟩, rfl, rfl⟩, iw_14 _ (List.mem_of_getElem? (i := 14) rfl), iw_14 _ (List.mem_of_getElem? (i := 15) rfl), _, rfl, rfl⟩
theorem ceX7_takeWord : rf_ceV mX7_takeWord 0 7 := ⟨⟨by decide +kernel, iw_14 _ (List.mem_of_getElem? (i := 1) rfl), iw_1 _ (List.mem_of_getElem? (i := 5) rfl), ⟨by decide +kernel, by decide +kernel, by decide +kernel⟩, rfl, rfl⟩, iw_13 _ (List.mem_of_getElem? (i := 23) rfl), iw_14 _ (List.mem_of_getElem? (i := 0) rfl), _, rfl, rfl⟩
theorem ceX7_teach : rf_ceV mX7_teach 3 7 := ⟨⟨by decide +kernel, iw_28 _ (List.mem_of_getElem? (i := 1) rfl), iw_1 _ (List.mem_of_getElem? (i := 5) rfl), ⟨by decide +kernel, by decide +kernel, by decide +kernel⟩, rfl, rfl⟩, iw_27 _ (List.mem_of_getElem? (i := 23) rfl), iw_28 _ (List.mem_of_getElem? (i := 0) rfl), _, rfl, rfl⟩
theorem ceX7_tear : rf_ceV mX7_tear 0 7 := ⟨⟨by decide +kernel, iw_39 _ (List.mem_of_getElem? (i := 11) rfl), iw_1 _ (List.mem_of_getElem? (i := 5) rfl), ⟨by decide +kernel, by decide +kernel, by decide +kernel⟩, rfl, rfl⟩, iw_39 _ (List.mem_of_getElem? (i := 9) rfl), iw_39 _ (List.mem_of_getElem? (i := 10) rfl), _, rfl, rfl⟩
theorem ceX7_toKnow : rf_ceV mX7_toKnow 2 7 := ⟨⟨by decide +kernel, iw_35 _ (List.mem_of_getElem? (i := 14) rfl), iw_1 _ (List.mem_of_getElem? (i := 5) rfl), ⟨by decide +kernel, by decide +kernel, by decide +kernel⟩, rfl, rfl⟩, iw_35 _ (List.mem_of_getElem? (i := 12) rfl), iw_35 _ (List.mem_of_getElem? (i := 13) rfl), _, rfl, rfl⟩
theorem ceX7_told : rf_ceV mX7_told 1 7 := ⟨⟨by decide +kernel, iw_17 _ (List.mem_of_getElem? (i := 15) rfl), iw_1 _ (List.mem_of_getElem? (i := 5) rfl), ⟨by decide +kernel, by decide +kernel, by decide +kernel⟩, rfl, rfl⟩, iw_17 _ (List.mem_of_getElem? (i := 13) rfl), iw_17 _ (List.mem_of_getElem? (i := 14) rfl), _, rfl, rfl⟩
theorem ceX7_vote : rf_ceV mX7_vote 1 7 := ⟨⟨by decide +kernel, iw_20 _ (List.mem_of_getElem? (i := 20) rfl), iw_1 _ (List.mem_of_getElem? (i := 5) rfl), ⟨by decide +kernel, by decide +kernel, by decide +kernel⟩, rfl, rfl⟩, iw_20 _ (List.mem_of_getElem? (i := 18) rfl), iw_20 _ (List.mem_of_getElem? (i := 19) rfl), _, rfl, rfl⟩
theorem ceX7_votesFor : rf_ceV mX7_votesFor 2 7 := ⟨⟨by decide +kernel, iw_21 _ (List.mem_of_getElem? (i := 3) rfl), iw_1 _ (List.mem_of_getElem? (i := 5) rfl), ⟨by decide +kernel, by decide +kernel, by decide +kernel⟩, rfl, rfl⟩, iw_21 _ (List.mem_of_getElem? (i := 1) rfl), iw_21 _ (List.mem_of_getElem? (i := 2) rfl), _, rfl, rfl⟩
theorem ceX7_want : rf_ceV mX7_want 3 7 := ⟨⟨by decide +kernel, iw_14 _ (List.mem_of_getElem? (i := 12) rfl), iw_1 _ (List.mem_of_getElem? (i := 5) rfl), ⟨by decide +kernel, by decide +kernel, by decide +kernel⟩, rfl, rfl⟩, iw_14 _ (List.mem_of_getElem? (i := 10) rfl), iw_14 _ (List.mem_of_getElem? (i := 11) rfl), _, rfl, rfl⟩
theorem ceX7_whence : rf_ceV mX7_whence 2 7 := ⟨⟨by decide +kernel, iw_38 _ (List.mem_of_getElem? (i := 4) rfl), iw_1 _ (List.mem_of_getElem? (i := 5) rfl), ⟨by decide +kernel, by decide +kernel, by decide +kernel⟩, rfl, rfl⟩, iw_38 _ (List.mem_of_getElem? (i := 2) rfl), iw_38 _ (List.mem_of_getElem? (i := 3) rfl), _, rfl, rfl⟩
theorem ceX7_where : rf_ceV mX7_where 1 7 := ⟨⟨by decide +kernel, iw_30 _ (List.mem_of_getElem? (i := 7) rfl), iw_1 _ (List.mem_of_getElem? (i := 5) rfl), ⟨by decide +kernel, by decide +kernel, by decide +kernel⟩, rfl, rfl⟩, iw_30 _ (List.mem_of_getElem? (i := 5) rfl), iw_30 _ (List.mem_of_getElem? (i := 6) rfl), _, rfl, rfl⟩
theorem ceX7_write : rf_ceV mX7_write 2 7 := ⟨⟨by decide +kernel, iw_27 _ (List.mem_of_getElem? (i := 16) rfl), iw_1 _ (List.mem_of_getElem? (i := 5) rfl), ⟨by decide +kernel, by decide +kernel, by decide +kernel⟩, rfl, rfl⟩, iw_27 _ (List.mem_of_getElem? (i := 14) rfl), iw_27 _ (List.mem_of_getElem? (i := 15) rfl), _, rfl, rfl⟩
theorem nJ6_265 : Cond.constant RJ6 265 (1431655765) ∈ wsL_law := iw_19 _ (List.mem_of_getElem? (i := 17) rfl)
theorem nJ6_266 : Cond.constant RJ6 266 (858993459) ∈ wsL_law := iw_19 _ (List.mem_of_getElem? (i := 18) rfl)
theorem nJ6_267 : Cond.constant RJ6 267 (252645135) ∈ wsL_law := iw_19 _ (List.mem_of_getElem? (i := 19) rfl)
theorem nX3_25 : Cond.constant RX3 25 (-1000000004) ∈ wsL_law := iw_30 _ (List.mem_of_getElem? (i := 16) rfl)
theorem nX5_119 : Cond.constant RX5 119 (-1000000004) ∈ wsL_law := iw_26 _ (List.mem_of_getElem? (i := 7) rfl)
theorem nX5_127 : Cond.constant RX5 127 (1103515245) ∈ wsL_law := iw_26 _ (List.mem_of_getElem? (i := 14) rfl)
theorem nX5_130 : Cond.constant RX5 130 (2147483647) ∈ wsL_law := iw_26 _ (List.mem_of_getElem? (i := 15) rfl)
theorem nX5_131 : Cond.constant RX5 131 (65536) ∈ wsL_law := iw_26 _ (List.mem_of_getElem? (i := 16) rfl)
theorem nX6_70 : Cond.constant RX6 70 (-1000000002) ∈ wsL_law := iw_6 _ (List.mem_of_getElem? (i := 7) rfl)
theorem nX6_74 : Cond.constant RX6 74 (-1000000004) ∈ wsL_law := iw_6 _ (List.mem_of_getElem? (i := 9) rfl)
theorem nX6_127 : Cond.constant RX6 127 (-1000000001) ∈ wsL_law := iw_18 _ (List.mem_of_getElem? (i := 7) rfl)
theorem nX6_194 : Cond.constant RX6 194 (-1000000003) ∈ wsL_law := iw_24 _ (List.mem_of_getElem? (i := 12) rfl)
theorem nX6_292 : Cond.constant RX6 292 (1000000000) ∈ wsL_law := iw_36 _ (List.mem_of_getElem? (i := 6) rfl)
theorem nX6_293 : Cond.constant RX6 293 (1000000) ∈ wsL_law := iw_36 _ (List.mem_of_getElem? (i := 18) rfl)
theorem nX7_57 : Cond.constantLong RX7 57 (8) ∈ wsL_law := iw_6 _ (List.mem_of_getElem? (i := 18) rfl)
theorem nX7_63 : Cond.constant RX7 63 (-1000000002) ∈ wsL_law := iw_6 _ (List.mem_of_getElem? (i := 19) rfl)
theorem nX7_67 : Cond.constant RX7 67 (-1000000004) ∈ wsL_law := iw_6 _ (List.mem_of_getElem? (i := 21) rfl)
theorem nX7_68 : Cond.constantLong RX7 68 (255) ∈ wsL_law := iw_6 _ (List.mem_of_getElem? (i := 22) rfl)
theorem nX7_83 : Cond.constantLong RX7 83 (97) ∈ wsL_law := iw_14 _ (List.mem_of_getElem? (i := 2) rfl)
theorem nX7_85 : Cond.constantLong RX7 85 (122) ∈ wsL_law := iw_14 _ (List.mem_of_getElem? (i := 3) rfl)
theorem nX7_90 : Cond.constantLong RX7 90 (48) ∈ wsL_law := iw_14 _ (List.mem_of_getElem? (i := 17) rfl)
theorem nX7_92 : Cond.constantLong RX7 92 (57) ∈ wsL_law := iw_14 _ (List.mem_of_getElem? (i := 18) rfl)
theorem nX7_98 : Cond.constant RX7 98 (99999) ∈ wsL_law := iw_14 _ (List.mem_of_getElem? (i := 19) rfl)
theorem nX7_123 : Cond.constantLong RX7 123 (160) ∈ wsL_law := iw_13 _ (List.mem_of_getElem? (i := 7) rfl)
theorem nX7_125 : Cond.constantLong RX7 125 (415) ∈ wsL_law := iw_13 _ (List.mem_of_getElem? (i := 8) rfl)
theorem nX7_127 : Cond.constantLong RX7 127 (120) ∈ wsL_law := iw_13 _ (List.mem_of_getElem? (i := 9) rfl)
theorem nX7_129 : Cond.constantLong RX7 129 (159) ∈ wsL_law := iw_13 _ (List.mem_of_getElem? (i := 10) rfl)
theorem nX7_165 : Cond.constant RX7 165 (-1000000001) ∈ wsL_law := iw_20 _ (List.mem_of_getElem? (i := 4) rfl)
theorem nX7_181 : Cond.constantLong RX7 181 (2) ∈ wsL_law := iw_24 _ (List.mem_of_getElem? (i := 7) rfl)
theorem nX7_187 : Cond.constant RX7 187 (-1000000003) ∈ wsL_law := iw_25 _ (List.mem_of_getElem? (i := 10) rfl)
theorem nX7_192 : Cond.constantLong RX7 192 (1103515245) ∈ wsL_law := iw_27 _ (List.mem_of_getElem? (i := 5) rfl)
theorem nX7_194 : Cond.constantLong RX7 194 (12345) ∈ wsL_law := iw_27 _ (List.mem_of_getElem? (i := 6) rfl)
theorem nX7_196 : Cond.constantLong RX7 196 (2147483648) ∈ wsL_law := iw_27 _ (List.mem_of_getElem? (i := 7) rfl)
theorem nX7_198 : Cond.constant RX7 198 (65536) ∈ wsL_law := iw_27 _ (List.mem_of_getElem? (i := 8) rfl)
theorem nX7_206 : Cond.constantLong RX7 206 (200) ∈ wsL_law := iw_28 _ (List.mem_of_getElem? (i := 14) rfl)
theorem nX7_212 : Cond.constantLong RX7 212 (100) ∈ wsL_law := iw_29 _ (List.mem_of_getElem? (i := 15) rfl)
theorem nX7_218 : Cond.constantLong RX7 218 (99) ∈ wsL_law := iw_30 _ (List.mem_of_getElem? (i := 21) rfl)
theorem nX7_248 : Cond.constantLong RX7 248 (9) ∈ wsL_law := iw_36 _ (List.mem_of_getElem? (i := 12) rfl)
theorem nX7_250 : Cond.constant RX7 250 (1000000000) ∈ wsL_law := iw_36 _ (List.mem_of_getElem? (i := 13) rfl)
theorem nX7_251 : Cond.constantLong RX7 251 (40) ∈ wsL_law := iw_36 _ (List.mem_of_getElem? (i := 23) rfl)
theorem nX7_253 : Cond.constant RX7 253 (1000000) ∈ wsL_law := iw_37 _ (List.mem_of_getElem? (i := 0) rfl)
theorem nX7_254 : Cond.constantLong RX7 254 (9999) ∈ wsL_law := iw_37 _ (List.mem_of_getElem? (i := 16) rfl)
theorem nX7_256 : Cond.constantLong RX7 256 (20) ∈ wsL_law := iw_38 _ (List.mem_of_getElem? (i := 18) rfl)
theorem nX7_258 : Cond.constantLong RX7 258 (16) ∈ wsL_law := iw_39 _ (List.mem_of_getElem? (i := 3) rfl)
theorem ev_mmin {Lay : List rf_Cell} {y : rf_Me} {pc : Nat} {L : List (Option Value)} {st : List Value} {M : rf_Mem} {r : Option Value} {M' : rf_Mem} {idx : Nat} {x z : Int32} (hd : decode y.2.1 pc = .ok (.invokestatic idx, 3)) (hw : Cond.methodLink y.1.cls idx yJ9_min_7cf53 ∈ wsL_law) (hfr : 1 ≤ y.2.2.2.2.frames) (hlo : (st.map fun v => v.category).sum + 13 ≤ y.2.2.2.2.locals) (h : Ev Lay y (pc + 3) L (.int (if z < x then z else x) :: st) M r M') : Ev Lay y pc L (.int z :: .int x :: st) M r M' := by
  intro p l e s m args below meth c D g ad A H locs ls C hP hD hS hl
  have hts := C.2.2.2.2.2.2.1
  have w1 : Cond.static Lib.Math.min.name ∈ wsL_law := iw_16 _ (List.mem_of_getElem? (i := 21) rfl)
  have w2 : Cond.initialized "java/lang/Math" ∈ wsL_law := iw_16 _ (List.mem_of_getElem? (i := 22) rfl)
  have w3 : Cond.code Lib.Math.min.name Lib.Math.min.code 2 (some .int) ∈ wsL_law := iw_16 _ (List.mem_of_getElem? (i := 23) rfl)
  exact va_mmin C.1 C.2.1 (C.2.2.2.2.1.trans hl.1.symm) C.2.2.2.2.2.1 (hts _ hw) (hts _ w1) (hts _ w2) (hts _ w3) hfr (by rw [rf_cat]; exact hlo) (Nat.zero_le _) (Nat.zero_le _) hd (h p l e s m args below meth c D g ad A H locs ls C hP hD hS hl)
theorem ev_mmax {Lay : List rf_Cell} {y : rf_Me} {pc : Nat} {L : List (Option Value)} {st : List Value} {M : rf_Mem} {r : Option Value} {M' : rf_Mem} {idx : Nat} {x z : Int32} (hd : decode y.2.1 pc = .ok (.invokestatic idx, 3)) (hw : Cond.methodLink y.1.cls idx yJ9_max_7cf53 ∈ wsL_law) (hfr : 1 ≤ y.2.2.2.2.frames) (hlo : (st.map fun v => v.category).sum + 13 ≤ y.2.2.2.2.locals) (h : Ev Lay y (pc + 3) L (.int (if x < z then z else x) :: st) M r M') : Ev Lay y pc L (.int z :: .int x :: st) M r M' := by
  intro p l e s m args below meth c D g ad A H locs ls C hP hD hS hl
  have hts := C.2.2.2.2.2.2.1
  have w1 : Cond.static Lib.Math.max.name ∈ wsL_law := iw_38 _ (List.mem_of_getElem? (i := 12) rfl)
  have w2 : Cond.initialized "java/lang/Math" ∈ wsL_law := iw_16 _ (List.mem_of_getElem? (i := 22) rfl)
  have w3 : Cond.code Lib.Math.max.name Lib.Math.max.code 2 (some .int) ∈ wsL_law := iw_38 _ (List.mem_of_getElem? (i := 13) rfl)
  exact va_mmax C.1 C.2.1 (C.2.2.2.2.1.trans hl.1.symm) C.2.2.2.2.2.1 (hts _ hw) (hts _ w1) (hts _ w2) (hts _ w3) hfr (by rw [rf_cat]; exact hlo) (Nat.zero_le _) (Nat.zero_le _) hd (h p l e s m args below meth c D g ad A H locs ls C hP hD hS hl)
end
section
theorem dX6_feed_0 : decode cX6_feed 0 = .ok (.iload_n 1, 1) := by decide +kernel
theorem dX6_feed_1 : decode cX6_feed 1 = .ok (.iconst 1, 1) := by decide +kernel
theorem dX6_feed_2 : decode cX6_feed 2 = .ok (.if_icmp .lt 9, 3) := by decide +kernel
theorem dX6_feed_5 : decode cX6_feed 5 = .ok (.iload_n 1, 1) := by decide +kernel
theorem dX6_feed_6 : decode cX6_feed 6 = .ok (.bipush 8, 2) := by decide +kernel
theorem dX6_feed_8 : decode cX6_feed 8 = .ok (.if_icmp .le 6, 3) := by decide +kernel
theorem dX6_feed_11 : decode cX6_feed 11 = .ok (.ldc 70, 2) := by decide +kernel
theorem dX6_feed_13 : decode cX6_feed 13 = .ok (.ireturn, 1) := by decide +kernel
theorem dX6_feed_14 : decode cX6_feed 14 = .ok (.aload_n 0, 1) := by decide +kernel
theorem dX6_feed_15 : decode cX6_feed 15 = .ok (.getfield 10, 3) := by decide +kernel
theorem dX6_feed_18 : decode cX6_feed 18 = .ok (.getfield 71, 3) := by decide +kernel
theorem dX6_feed_21 : decode cX6_feed 21 = .ok (.iload_n 1, 1) := by decide +kernel
theorem dX6_feed_22 : decode cX6_feed 22 = .ok (.iadd, 1) := by decide +kernel
theorem dX6_feed_23 : decode cX6_feed 23 = .ok (.sipush 400, 3) := by decide +kernel
theorem dX6_feed_26 : decode cX6_feed 26 = .ok (.if_icmp .le 6, 3) := by decide +kernel
theorem dX6_feed_29 : decode cX6_feed 29 = .ok (.ldc 74, 2) := by decide +kernel
theorem dX6_feed_31 : decode cX6_feed 31 = .ok (.ireturn, 1) := by decide +kernel
theorem dX6_feed_32 : decode cX6_feed 32 = .ok (.iload_n 1, 1) := by decide +kernel
theorem dX6_feed_33 : decode cX6_feed 33 = .ok (.iconst 1, 1) := by decide +kernel
theorem dX6_feed_34 : decode cX6_feed 34 = .ok (.isub, 1) := by decide +kernel
theorem dX6_feed_35 : decode cX6_feed 35 = .ok (.istore 4, 2) := by decide +kernel
theorem dX6_feed_37 : decode cX6_feed 37 = .ok (.iload 4, 2) := by decide +kernel
theorem dX6_feed_39 : decode cX6_feed 39 = .ok (.ifCond .lt 28, 3) := by decide +kernel
theorem dX6_feed_42 : decode cX6_feed 42 = .ok (.aload_n 0, 1) := by decide +kernel
theorem dX6_feed_43 : decode cX6_feed 43 = .ok (.getfield 10, 3) := by decide +kernel
theorem dX6_feed_46 : decode cX6_feed 46 = .ok (.lload_n 2, 1) := by decide +kernel
theorem dX6_feed_47 : decode cX6_feed 47 = .ok (.bipush 8, 2) := by decide +kernel
theorem dX6_feed_49 : decode cX6_feed 49 = .ok (.iload 4, 2) := by decide +kernel
theorem dX6_feed_51 : decode cX6_feed 51 = .ok (.imul, 1) := by decide +kernel
theorem dX6_feed_52 : decode cX6_feed 52 = .ok (.lushr, 1) := by decide +kernel
theorem dX6_feed_53 : decode cX6_feed 53 = .ok (.l2i, 1) := by decide +kernel
theorem dX6_feed_54 : decode cX6_feed 54 = .ok (.sipush 255, 3) := by decide +kernel
theorem dX6_feed_57 : decode cX6_feed 57 = .ok (.iand, 1) := by decide +kernel
theorem dX6_feed_58 : decode cX6_feed 58 = .ok (.invokevirtual 75, 3) := by decide +kernel
theorem dX6_feed_61 : decode cX6_feed 61 = .ok (.iinc 4 (-1), 3) := by decide +kernel
theorem dX6_feed_64 : decode cX6_feed 64 = .ok (.goto (-27), 3) := by decide +kernel
theorem dX6_feed_67 : decode cX6_feed 67 = .ok (.aload_n 0, 1) := by decide +kernel
theorem dX6_feed_68 : decode cX6_feed 68 = .ok (.getfield 10, 3) := by decide +kernel
theorem dX6_feed_71 : decode cX6_feed 71 = .ok (.getfield 71, 3) := by decide +kernel
theorem dX6_feed_74 : decode cX6_feed 74 = .ok (.ireturn, 1) := by decide +kernel
theorem dX6_library_0 : decode cX6_library 0 = .ok (.aload_n 0, 1) := by decide +kernel
theorem dX6_library_1 : decode cX6_library 1 = .ok (.getfield 10, 3) := by decide +kernel
theorem dX6_library_4 : decode cX6_library 4 = .ok (.aload_n 0, 1) := by decide +kernel
theorem dX6_library_5 : decode cX6_library 5 = .ok (.getfield 19, 3) := by decide +kernel
theorem dX6_library_8 : decode cX6_library 8 = .ok (.invokevirtual 79, 3) := by decide +kernel
theorem dX6_library_11 : decode cX6_library 11 = .ok (.aload_n 0, 1) := by decide +kernel
theorem dX6_library_12 : decode cX6_library 12 = .ok (.getfield 10, 3) := by decide +kernel
theorem dX6_library_15 : decode cX6_library 15 = .ok (.iconst 0, 1) := by decide +kernel
theorem dX6_library_16 : decode cX6_library 16 = .ok (.putfield 71, 3) := by decide +kernel
theorem dX6_library_19 : decode cX6_library 19 = .ok (.aload_n 0, 1) := by decide +kernel
theorem dX6_library_20 : decode cX6_library 20 = .ok (.getfield 10, 3) := by decide +kernel
theorem dX6_library_23 : decode cX6_library 23 = .ok (.getfield 82, 3) := by decide +kernel
theorem dX6_library_26 : decode cX6_library 26 = .ok (.ifCond .eq 14, 3) := by decide +kernel
theorem dX6_library_29 : decode cX6_library 29 = .ok (.bipush (-10), 2) := by decide +kernel
theorem dX6_library_31 : decode cX6_library 31 = .ok (.aload_n 0, 1) := by decide +kernel
theorem dX6_library_32 : decode cX6_library 32 = .ok (.getfield 10, 3) := by decide +kernel
theorem dX6_library_35 : decode cX6_library 35 = .ok (.getfield 82, 3) := by decide +kernel
theorem dX6_library_38 : decode cX6_library 38 = .ok (.isub, 1) := by decide +kernel
theorem dX6_library_39 : decode cX6_library 39 = .ok (.ireturn, 1) := by decide +kernel
theorem dX6_library_40 : decode cX6_library 40 = .ok (.aload_n 0, 1) := by decide +kernel
theorem dX6_library_41 : decode cX6_library 41 = .ok (.getfield 23, 3) := by decide +kernel
theorem dX6_library_44 : decode cX6_library 44 = .ok (.aload_n 0, 1) := by decide +kernel
theorem dX6_library_45 : decode cX6_library 45 = .ok (.getfield 19, 3) := by decide +kernel
theorem dX6_library_48 : decode cX6_library 48 = .ok (.invokevirtual 85, 3) := by decide +kernel
theorem dX6_library_51 : decode cX6_library 51 = .ok (.aload_n 0, 1) := by decide +kernel
theorem dX6_library_52 : decode cX6_library 52 = .ok (.getfield 31, 3) := by decide +kernel
theorem dX6_library_55 : decode cX6_library 55 = .ok (.invokevirtual 88, 3) := by decide +kernel
theorem dX6_library_58 : decode cX6_library 58 = .ok (.aload_n 0, 1) := by decide +kernel
theorem dX6_library_59 : decode cX6_library 59 = .ok (.getfield 49, 3) := by decide +kernel
theorem dX6_library_62 : decode cX6_library 62 = .ok (.iconst 0, 1) := by decide +kernel
theorem dX6_library_63 : decode cX6_library 63 = .ok (.putfield 91, 3) := by decide +kernel
theorem dX6_library_66 : decode cX6_library 66 = .ok (.aload_n 0, 1) := by decide +kernel
theorem dX6_library_67 : decode cX6_library 67 = .ok (.iconst 0, 1) := by decide +kernel
theorem dX6_library_68 : decode cX6_library 68 = .ok (.putfield 64, 3) := by decide +kernel
theorem dX6_library_71 : decode cX6_library 71 = .ok (.aload_n 0, 1) := by decide +kernel
theorem dX6_library_72 : decode cX6_library 72 = .ok (.iconst 0, 1) := by decide +kernel
theorem dX6_library_73 : decode cX6_library 73 = .ok (.putfield 42, 3) := by decide +kernel
theorem dX6_library_76 : decode cX6_library 76 = .ok (.aload_n 0, 1) := by decide +kernel
theorem dX6_library_77 : decode cX6_library 77 = .ok (.getfield 23, 3) := by decide +kernel
theorem dX6_library_80 : decode cX6_library 80 = .ok (.getfield 94, 3) := by decide +kernel
theorem dX6_library_83 : decode cX6_library 83 = .ok (.ireturn, 1) := by decide +kernel
theorem dX6_fault_0 : decode cX6_fault 0 = .ok (.aload_n 0, 1) := by decide +kernel
theorem dX6_fault_1 : decode cX6_fault 1 = .ok (.getfield 10, 3) := by decide +kernel
theorem dX6_fault_4 : decode cX6_fault 4 = .ok (.getfield 97, 3) := by decide +kernel
theorem dX6_fault_7 : decode cX6_fault 7 = .ok (.ireturn, 1) := by decide +kernel
theorem dX6_told_0 : decode cX6_told 0 = .ok (.iload_n 1, 1) := by decide +kernel
theorem dX6_told_1 : decode cX6_told 1 = .ok (.tableswitch 136 0 9 #[55, 63, 71, 79, 87, 98, 103, 111, 119, 127], 55) := by decide +kernel
theorem dX6_told_56 : decode cX6_told 56 = .ok (.aload_n 0, 1) := by decide +kernel
theorem dX6_told_57 : decode cX6_told 57 = .ok (.getfield 23, 3) := by decide +kernel
theorem dX6_told_60 : decode cX6_told 60 = .ok (.getfield 94, 3) := by decide +kernel
theorem dX6_told_63 : decode cX6_told 63 = .ok (.ireturn, 1) := by decide +kernel
theorem dX6_told_64 : decode cX6_told 64 = .ok (.aload_n 0, 1) := by decide +kernel
theorem dX6_told_65 : decode cX6_told 65 = .ok (.getfield 23, 3) := by decide +kernel
theorem dX6_told_68 : decode cX6_told 68 = .ok (.getfield 100, 3) := by decide +kernel
theorem dX6_told_71 : decode cX6_told 71 = .ok (.ireturn, 1) := by decide +kernel
theorem dX6_told_72 : decode cX6_told 72 = .ok (.aload_n 0, 1) := by decide +kernel
theorem dX6_told_73 : decode cX6_told 73 = .ok (.getfield 31, 3) := by decide +kernel
theorem dX6_told_76 : decode cX6_told 76 = .ok (.getfield 103, 3) := by decide +kernel
theorem dX6_told_79 : decode cX6_told 79 = .ok (.ireturn, 1) := by decide +kernel
theorem dX6_told_80 : decode cX6_told 80 = .ok (.aload_n 0, 1) := by decide +kernel
theorem dX6_told_81 : decode cX6_told 81 = .ok (.getfield 49, 3) := by decide +kernel
theorem dX6_told_84 : decode cX6_told 84 = .ok (.getfield 91, 3) := by decide +kernel
theorem dX6_told_87 : decode cX6_told 87 = .ok (.ireturn, 1) := by decide +kernel
theorem dX6_told_88 : decode cX6_told 88 = .ok (.aload_n 0, 1) := by decide +kernel
theorem dX6_told_89 : decode cX6_told 89 = .ok (.getfield 31, 3) := by decide +kernel
theorem dX6_told_92 : decode cX6_told 92 = .ok (.getfield 106, 3) := by decide +kernel
theorem dX6_told_95 : decode cX6_told 95 = .ok (.getfield 110, 3) := by decide +kernel
theorem dX6_told_98 : decode cX6_told 98 = .ok (.ireturn, 1) := by decide +kernel
theorem dX6_told_99 : decode cX6_told 99 = .ok (.aload_n 0, 1) := by decide +kernel
theorem dX6_told_100 : decode cX6_told 100 = .ok (.getfield 64, 3) := by decide +kernel
theorem dX6_told_103 : decode cX6_told 103 = .ok (.ireturn, 1) := by decide +kernel
theorem dX6_told_104 : decode cX6_told 104 = .ok (.aload_n 0, 1) := by decide +kernel
theorem dX6_told_105 : decode cX6_told 105 = .ok (.getfield 10, 3) := by decide +kernel
theorem dX6_told_108 : decode cX6_told 108 = .ok (.getfield 71, 3) := by decide +kernel
theorem dX6_told_111 : decode cX6_told 111 = .ok (.ireturn, 1) := by decide +kernel
theorem dX6_told_112 : decode cX6_told 112 = .ok (.aload_n 0, 1) := by decide +kernel
theorem dX6_told_113 : decode cX6_told 113 = .ok (.getfield 31, 3) := by decide +kernel
theorem dX6_told_116 : decode cX6_told 116 = .ok (.getfield 113, 3) := by decide +kernel
theorem dX6_told_119 : decode cX6_told 119 = .ok (.ireturn, 1) := by decide +kernel
theorem dX6_told_120 : decode cX6_told 120 = .ok (.aload_n 0, 1) := by decide +kernel
theorem dX6_told_121 : decode cX6_told 121 = .ok (.getfield 23, 3) := by decide +kernel
theorem dX6_told_124 : decode cX6_told 124 = .ok (.getfield 116, 3) := by decide +kernel
theorem dX6_told_127 : decode cX6_told 127 = .ok (.ireturn, 1) := by decide +kernel
theorem dX6_told_128 : decode cX6_told 128 = .ok (.aload_n 0, 1) := by decide +kernel
theorem dX6_told_129 : decode cX6_told 129 = .ok (.getfield 31, 3) := by decide +kernel
theorem dX6_told_132 : decode cX6_told 132 = .ok (.iconst 0, 1) := by decide +kernel
theorem dX6_told_133 : decode cX6_told 133 = .ok (.invokevirtual 119, 3) := by decide +kernel
theorem dX6_told_136 : decode cX6_told 136 = .ok (.ireturn, 1) := by decide +kernel
theorem dX6_told_137 : decode cX6_told 137 = .ok (.ldc 70, 2) := by decide +kernel
theorem dX6_told_139 : decode cX6_told 139 = .ok (.ireturn, 1) := by decide +kernel
theorem dX6_line_0 : decode cX6_line 0 = .ok (.aload_n 0, 1) := by decide +kernel
theorem dX6_line_1 : decode cX6_line 1 = .ok (.getfield 23, 3) := by decide +kernel
theorem dX6_line_4 : decode cX6_line 4 = .ok (.iload_n 1, 1) := by decide +kernel
theorem dX6_line_5 : decode cX6_line 5 = .ok (.invokevirtual 123, 3) := by decide +kernel
theorem dX6_line_8 : decode cX6_line 8 = .ok (.ifCond .ne 6, 3) := by decide +kernel
theorem dX6_line_11 : decode cX6_line 11 = .ok (.ldc 127, 2) := by decide +kernel
theorem dX6_line_13 : decode cX6_line 13 = .ok (.ireturn, 1) := by decide +kernel
theorem dX6_line_14 : decode cX6_line 14 = .ok (.iload_n 2, 1) := by decide +kernel
theorem dX6_line_15 : decode cX6_line 15 = .ok (.tableswitch 102 0 5 #[37, 47, 65, 74, 83, 92], 37) := by decide +kernel
theorem dX6_line_52 : decode cX6_line 52 = .ok (.aload_n 0, 1) := by decide +kernel
theorem dX6_line_53 : decode cX6_line 53 = .ok (.getfield 23, 3) := by decide +kernel
theorem dX6_line_56 : decode cX6_line 56 = .ok (.getfield 128, 3) := by decide +kernel
theorem dX6_line_59 : decode cX6_line 59 = .ok (.iload_n 1, 1) := by decide +kernel
theorem dX6_line_60 : decode cX6_line 60 = .ok (.iaload, 1) := by decide +kernel
theorem dX6_line_61 : decode cX6_line 61 = .ok (.ireturn, 1) := by decide +kernel
theorem dX6_line_62 : decode cX6_line 62 = .ok (.aload_n 0, 1) := by decide +kernel
theorem dX6_line_63 : decode cX6_line 63 = .ok (.getfield 31, 3) := by decide +kernel
theorem dX6_line_66 : decode cX6_line 66 = .ok (.iload_n 1, 1) := by decide +kernel
theorem dX6_line_67 : decode cX6_line 67 = .ok (.iconst 0, 1) := by decide +kernel
theorem dX6_line_68 : decode cX6_line 68 = .ok (.invokevirtual 131, 3) := by decide +kernel
theorem dX6_line_71 : decode cX6_line 71 = .ok (.ifCond .eq 7, 3) := by decide +kernel
theorem dX6_line_74 : decode cX6_line 74 = .ok (.iconst 1, 1) := by decide +kernel
theorem dX6_line_75 : decode cX6_line 75 = .ok (.goto 4, 3) := by decide +kernel
theorem dX6_line_78 : decode cX6_line 78 = .ok (.iconst 0, 1) := by decide +kernel
theorem dX6_line_79 : decode cX6_line 79 = .ok (.ireturn, 1) := by decide +kernel
theorem dX6_line_80 : decode cX6_line 80 = .ok (.aload_n 0, 1) := by decide +kernel
theorem dX6_line_81 : decode cX6_line 81 = .ok (.getfield 31, 3) := by decide +kernel
theorem dX6_line_84 : decode cX6_line 84 = .ok (.iload_n 1, 1) := by decide +kernel
theorem dX6_line_85 : decode cX6_line 85 = .ok (.invokevirtual 135, 3) := by decide +kernel
theorem dX6_line_88 : decode cX6_line 88 = .ok (.ireturn, 1) := by decide +kernel
theorem dX6_line_89 : decode cX6_line 89 = .ok (.aload_n 0, 1) := by decide +kernel
theorem dX6_line_90 : decode cX6_line 90 = .ok (.getfield 31, 3) := by decide +kernel
theorem dX6_line_93 : decode cX6_line 93 = .ok (.iload_n 1, 1) := by decide +kernel
theorem dX6_line_94 : decode cX6_line 94 = .ok (.invokevirtual 138, 3) := by decide +kernel
theorem dX6_line_97 : decode cX6_line 97 = .ok (.ireturn, 1) := by decide +kernel
theorem dX6_line_98 : decode cX6_line 98 = .ok (.aload_n 0, 1) := by decide +kernel
theorem dX6_line_99 : decode cX6_line 99 = .ok (.getfield 31, 3) := by decide +kernel
theorem dX6_line_102 : decode cX6_line 102 = .ok (.iload_n 1, 1) := by decide +kernel
theorem dX6_line_103 : decode cX6_line 103 = .ok (.invokevirtual 141, 3) := by decide +kernel
theorem dX6_line_106 : decode cX6_line 106 = .ok (.ireturn, 1) := by decide +kernel
theorem dX6_line_107 : decode cX6_line 107 = .ok (.aload_n 0, 1) := by decide +kernel
theorem dX6_line_108 : decode cX6_line 108 = .ok (.getfield 31, 3) := by decide +kernel
theorem dX6_line_111 : decode cX6_line 111 = .ok (.getfield 144, 3) := by decide +kernel
theorem dX6_line_114 : decode cX6_line 114 = .ok (.iload_n 1, 1) := by decide +kernel
theorem dX6_line_115 : decode cX6_line 115 = .ok (.iaload, 1) := by decide +kernel
theorem dX6_line_116 : decode cX6_line 116 = .ok (.ireturn, 1) := by decide +kernel
theorem dX6_line_117 : decode cX6_line 117 = .ok (.ldc 70, 2) := by decide +kernel
theorem dX6_line_119 : decode cX6_line 119 = .ok (.ireturn, 1) := by decide +kernel
theorem dX6_reader_0 : decode cX6_reader 0 = .ok (.aload_n 0, 1) := by decide +kernel
theorem dX6_reader_1 : decode cX6_reader 1 = .ok (.getfield 23, 3) := by decide +kernel
theorem dX6_reader_4 : decode cX6_reader 4 = .ok (.iload_n 1, 1) := by decide +kernel
theorem dX6_reader_5 : decode cX6_reader 5 = .ok (.invokevirtual 147, 3) := by decide +kernel
theorem dX6_reader_8 : decode cX6_reader 8 = .ok (.ifCond .ne 6, 3) := by decide +kernel
theorem dX6_reader_11 : decode cX6_reader 11 = .ok (.ldc 127, 2) := by decide +kernel
theorem dX6_reader_13 : decode cX6_reader 13 = .ok (.ireturn, 1) := by decide +kernel
theorem dX6_reader_14 : decode cX6_reader 14 = .ok (.iload_n 2, 1) := by decide +kernel
theorem dX6_reader_15 : decode cX6_reader 15 = .ok (.tableswitch 54 0 2 #[25, 35, 45], 25) := by decide +kernel
theorem dX6_reader_40 : decode cX6_reader 40 = .ok (.aload_n 0, 1) := by decide +kernel
theorem dX6_reader_41 : decode cX6_reader 41 = .ok (.getfield 23, 3) := by decide +kernel
theorem dX6_reader_44 : decode cX6_reader 44 = .ok (.getfield 150, 3) := by decide +kernel
theorem dX6_reader_47 : decode cX6_reader 47 = .ok (.iload_n 1, 1) := by decide +kernel
theorem dX6_reader_48 : decode cX6_reader 48 = .ok (.iaload, 1) := by decide +kernel
theorem dX6_reader_49 : decode cX6_reader 49 = .ok (.ireturn, 1) := by decide +kernel
theorem dX6_reader_50 : decode cX6_reader 50 = .ok (.aload_n 0, 1) := by decide +kernel
theorem dX6_reader_51 : decode cX6_reader 51 = .ok (.getfield 23, 3) := by decide +kernel
theorem dX6_reader_54 : decode cX6_reader 54 = .ok (.getfield 153, 3) := by decide +kernel
theorem dX6_reader_57 : decode cX6_reader 57 = .ok (.iload_n 1, 1) := by decide +kernel
theorem dX6_reader_58 : decode cX6_reader 58 = .ok (.iaload, 1) := by decide +kernel
theorem dX6_reader_59 : decode cX6_reader 59 = .ok (.ireturn, 1) := by decide +kernel
theorem dX6_reader_60 : decode cX6_reader 60 = .ok (.aload_n 0, 1) := by decide +kernel
theorem dX6_reader_61 : decode cX6_reader 61 = .ok (.getfield 31, 3) := by decide +kernel
theorem dX6_reader_64 : decode cX6_reader 64 = .ok (.iload_n 1, 1) := by decide +kernel
theorem dX6_reader_65 : decode cX6_reader 65 = .ok (.invokevirtual 156, 3) := by decide +kernel
theorem dX6_reader_68 : decode cX6_reader 68 = .ok (.ireturn, 1) := by decide +kernel
theorem dX6_reader_69 : decode cX6_reader 69 = .ok (.ldc 70, 2) := by decide +kernel
theorem dX6_reader_71 : decode cX6_reader 71 = .ok (.ireturn, 1) := by decide +kernel
theorem dX6_page_0 : decode cX6_page 0 = .ok (.aload_n 0, 1) := by decide +kernel
theorem dX6_page_1 : decode cX6_page 1 = .ok (.getfield 31, 3) := by decide +kernel
theorem dX6_page_4 : decode cX6_page 4 = .ok (.iload_n 1, 1) := by decide +kernel
theorem dX6_page_5 : decode cX6_page 5 = .ok (.invokevirtual 159, 3) := by decide +kernel
theorem dX6_page_8 : decode cX6_page 8 = .ok (.ifCond .ne 6, 3) := by decide +kernel
theorem dX6_page_11 : decode cX6_page 11 = .ok (.ldc 127, 2) := by decide +kernel
theorem dX6_page_13 : decode cX6_page 13 = .ok (.ireturn, 1) := by decide +kernel
theorem dX6_page_14 : decode cX6_page 14 = .ok (.iload_n 2, 1) := by decide +kernel
theorem dX6_page_15 : decode cX6_page 15 = .ok (.tableswitch 71 0 3 #[29, 39, 49, 59], 29) := by decide +kernel
theorem dX6_page_44 : decode cX6_page 44 = .ok (.aload_n 0, 1) := by decide +kernel
theorem dX6_page_45 : decode cX6_page 45 = .ok (.getfield 31, 3) := by decide +kernel
theorem dX6_page_48 : decode cX6_page 48 = .ok (.getfield 162, 3) := by decide +kernel
theorem dX6_page_51 : decode cX6_page 51 = .ok (.iload_n 1, 1) := by decide +kernel
theorem dX6_page_52 : decode cX6_page 52 = .ok (.iaload, 1) := by decide +kernel
theorem dX6_page_53 : decode cX6_page 53 = .ok (.ireturn, 1) := by decide +kernel
theorem dX6_page_54 : decode cX6_page 54 = .ok (.aload_n 0, 1) := by decide +kernel
theorem dX6_page_55 : decode cX6_page 55 = .ok (.getfield 31, 3) := by decide +kernel
theorem dX6_page_58 : decode cX6_page 58 = .ok (.getfield 165, 3) := by decide +kernel
theorem dX6_page_61 : decode cX6_page 61 = .ok (.iload_n 1, 1) := by decide +kernel
theorem dX6_page_62 : decode cX6_page 62 = .ok (.iaload, 1) := by decide +kernel
theorem dX6_page_63 : decode cX6_page 63 = .ok (.ireturn, 1) := by decide +kernel
theorem dX6_page_64 : decode cX6_page 64 = .ok (.aload_n 0, 1) := by decide +kernel
theorem dX6_page_65 : decode cX6_page 65 = .ok (.getfield 31, 3) := by decide +kernel
theorem dX6_page_68 : decode cX6_page 68 = .ok (.getfield 168, 3) := by decide +kernel
theorem dX6_page_71 : decode cX6_page 71 = .ok (.iload_n 1, 1) := by decide +kernel
theorem dX6_page_72 : decode cX6_page 72 = .ok (.iaload, 1) := by decide +kernel
theorem dX6_page_73 : decode cX6_page 73 = .ok (.ireturn, 1) := by decide +kernel
theorem dX6_page_74 : decode cX6_page 74 = .ok (.aload_n 0, 1) := by decide +kernel
theorem dX6_page_75 : decode cX6_page 75 = .ok (.getfield 31, 3) := by decide +kernel
theorem dX6_page_78 : decode cX6_page 78 = .ok (.getfield 106, 3) := by decide +kernel
theorem dX6_page_81 : decode cX6_page 81 = .ok (.iload_n 1, 1) := by decide +kernel
theorem dX6_page_82 : decode cX6_page 82 = .ok (.invokevirtual 171, 3) := by decide +kernel
theorem dX6_page_85 : decode cX6_page 85 = .ok (.ireturn, 1) := by decide +kernel
theorem dX6_page_86 : decode cX6_page 86 = .ok (.ldc 70, 2) := by decide +kernel
theorem dX6_page_88 : decode cX6_page 88 = .ok (.ireturn, 1) := by decide +kernel
theorem dX6_knows_0 : decode cX6_knows 0 = .ok (.aload_n 0, 1) := by decide +kernel
theorem dX6_knows_1 : decode cX6_knows 1 = .ok (.getfield 23, 3) := by decide +kernel
theorem dX6_knows_4 : decode cX6_knows 4 = .ok (.iload_n 1, 1) := by decide +kernel
theorem dX6_knows_5 : decode cX6_knows 5 = .ok (.invokevirtual 147, 3) := by decide +kernel
theorem dX6_knows_8 : decode cX6_knows 8 = .ok (.ifCond .eq 14, 3) := by decide +kernel
theorem dX6_knows_11 : decode cX6_knows 11 = .ok (.aload_n 0, 1) := by decide +kernel
theorem dX6_knows_12 : decode cX6_knows 12 = .ok (.getfield 23, 3) := by decide +kernel
theorem dX6_knows_15 : decode cX6_knows 15 = .ok (.iload_n 2, 1) := by decide +kernel
theorem dX6_knows_16 : decode cX6_knows 16 = .ok (.invokevirtual 123, 3) := by decide +kernel
theorem dX6_knows_19 : decode cX6_knows 19 = .ok (.ifCond .ne 6, 3) := by decide +kernel
theorem dX6_knows_22 : decode cX6_knows 22 = .ok (.ldc 127, 2) := by decide +kernel
theorem dX6_knows_24 : decode cX6_knows 24 = .ok (.ireturn, 1) := by decide +kernel
theorem dX6_knows_25 : decode cX6_knows 25 = .ok (.iload_n 3, 1) := by decide +kernel
theorem dX6_knows_26 : decode cX6_knows 26 = .ok (.ifCond .lt 8, 3) := by decide +kernel
theorem dX6_knows_29 : decode cX6_knows 29 = .ok (.iload_n 3, 1) := by decide +kernel
theorem dX6_knows_30 : decode cX6_knows 30 = .ok (.iconst 1, 1) := by decide +kernel
theorem dX6_knows_31 : decode cX6_knows 31 = .ok (.if_icmp .le 6, 3) := by decide +kernel
theorem dX6_knows_34 : decode cX6_knows 34 = .ok (.ldc 70, 2) := by decide +kernel
theorem dX6_knows_36 : decode cX6_knows 36 = .ok (.ireturn, 1) := by decide +kernel
theorem dX6_knows_37 : decode cX6_knows 37 = .ok (.aload_n 0, 1) := by decide +kernel
theorem dX6_knows_38 : decode cX6_knows 38 = .ok (.getfield 31, 3) := by decide +kernel
theorem dX6_knows_41 : decode cX6_knows 41 = .ok (.iload_n 1, 1) := by decide +kernel
theorem dX6_knows_42 : decode cX6_knows 42 = .ok (.iload_n 2, 1) := by decide +kernel
theorem dX6_knows_43 : decode cX6_knows 43 = .ok (.invokevirtual 174, 3) := by decide +kernel
theorem dX6_knows_46 : decode cX6_knows 46 = .ok (.ifCond .ne 5, 3) := by decide +kernel
theorem dX6_knows_49 : decode cX6_knows 49 = .ok (.iconst (-1), 1) := by decide +kernel
theorem dX6_knows_50 : decode cX6_knows 50 = .ok (.ireturn, 1) := by decide +kernel
theorem dX6_knows_51 : decode cX6_knows 51 = .ok (.iload_n 3, 1) := by decide +kernel
theorem dX6_knows_52 : decode cX6_knows 52 = .ok (.ifCond .ne 15, 3) := by decide +kernel
theorem dX6_knows_55 : decode cX6_knows 55 = .ok (.aload_n 0, 1) := by decide +kernel
theorem dX6_knows_56 : decode cX6_knows 56 = .ok (.getfield 31, 3) := by decide +kernel
theorem dX6_knows_59 : decode cX6_knows 59 = .ok (.iload_n 1, 1) := by decide +kernel
theorem dX6_knows_60 : decode cX6_knows 60 = .ok (.iload_n 2, 1) := by decide +kernel
theorem dX6_knows_61 : decode cX6_knows 61 = .ok (.invokevirtual 177, 3) := by decide +kernel
theorem dX6_knows_64 : decode cX6_knows 64 = .ok (.goto 12, 3) := by decide +kernel
theorem dX6_knows_67 : decode cX6_knows 67 = .ok (.aload_n 0, 1) := by decide +kernel
theorem dX6_knows_68 : decode cX6_knows 68 = .ok (.getfield 31, 3) := by decide +kernel
theorem dX6_knows_71 : decode cX6_knows 71 = .ok (.iload_n 1, 1) := by decide +kernel
theorem dX6_knows_72 : decode cX6_knows 72 = .ok (.iload_n 2, 1) := by decide +kernel
theorem dX6_knows_73 : decode cX6_knows 73 = .ok (.invokevirtual 181, 3) := by decide +kernel
theorem dX6_knows_76 : decode cX6_knows 76 = .ok (.ireturn, 1) := by decide +kernel
theorem dX6_reading_0 : decode cX6_reading 0 = .ok (.iload_n 2, 1) := by decide +kernel
theorem dX6_reading_1 : decode cX6_reading 1 = .ok (.ifCond .lt 8, 3) := by decide +kernel
theorem dX6_reading_4 : decode cX6_reading 4 = .ok (.iload_n 2, 1) := by decide +kernel
theorem dX6_reading_5 : decode cX6_reading 5 = .ok (.iconst 2, 1) := by decide +kernel
theorem dX6_reading_6 : decode cX6_reading 6 = .ok (.if_icmp .le 6, 3) := by decide +kernel
theorem dX6_reading_9 : decode cX6_reading 9 = .ok (.ldc 70, 2) := by decide +kernel
theorem dX6_reading_11 : decode cX6_reading 11 = .ok (.ireturn, 1) := by decide +kernel
theorem dX6_reading_12 : decode cX6_reading 12 = .ok (.iload_n 1, 1) := by decide +kernel
theorem dX6_reading_13 : decode cX6_reading 13 = .ok (.ifCond .lt 17, 3) := by decide +kernel
theorem dX6_reading_16 : decode cX6_reading 16 = .ok (.iload_n 1, 1) := by decide +kernel
theorem dX6_reading_17 : decode cX6_reading 17 = .ok (.aload_n 0, 1) := by decide +kernel
theorem dX6_reading_18 : decode cX6_reading 18 = .ok (.getfield 31, 3) := by decide +kernel
theorem dX6_reading_21 : decode cX6_reading 21 = .ok (.getfield 106, 3) := by decide +kernel
theorem dX6_reading_24 : decode cX6_reading 24 = .ok (.getfield 110, 3) := by decide +kernel
theorem dX6_reading_27 : decode cX6_reading 27 = .ok (.if_icmp .lt 5, 3) := by decide +kernel
theorem dX6_reading_30 : decode cX6_reading 30 = .ok (.iconst (-1), 1) := by decide +kernel
theorem dX6_reading_31 : decode cX6_reading 31 = .ok (.ireturn, 1) := by decide +kernel
theorem dX6_reading_32 : decode cX6_reading 32 = .ok (.iload_n 2, 1) := by decide +kernel
theorem dX6_reading_33 : decode cX6_reading 33 = .ok (.lookupswitch 53 #[(0, 27), (1, 40)], 27) := by decide +kernel
theorem dX6_reading_60 : decode cX6_reading 60 = .ok (.aload_n 0, 1) := by decide +kernel
theorem dX6_reading_61 : decode cX6_reading 61 = .ok (.getfield 31, 3) := by decide +kernel
theorem dX6_reading_64 : decode cX6_reading 64 = .ok (.getfield 106, 3) := by decide +kernel
theorem dX6_reading_67 : decode cX6_reading 67 = .ok (.getfield 184, 3) := by decide +kernel
theorem dX6_reading_70 : decode cX6_reading 70 = .ok (.iload_n 1, 1) := by decide +kernel
theorem dX6_reading_71 : decode cX6_reading 71 = .ok (.iaload, 1) := by decide +kernel
theorem dX6_reading_72 : decode cX6_reading 72 = .ok (.ireturn, 1) := by decide +kernel
theorem dX6_reading_73 : decode cX6_reading 73 = .ok (.aload_n 0, 1) := by decide +kernel
theorem dX6_reading_74 : decode cX6_reading 74 = .ok (.getfield 31, 3) := by decide +kernel
theorem dX6_reading_77 : decode cX6_reading 77 = .ok (.getfield 106, 3) := by decide +kernel
theorem dX6_reading_80 : decode cX6_reading 80 = .ok (.getfield 187, 3) := by decide +kernel
theorem dX6_reading_83 : decode cX6_reading 83 = .ok (.iload_n 1, 1) := by decide +kernel
theorem dX6_reading_84 : decode cX6_reading 84 = .ok (.iaload, 1) := by decide +kernel
theorem dX6_reading_85 : decode cX6_reading 85 = .ok (.ireturn, 1) := by decide +kernel
theorem dX6_reading_86 : decode cX6_reading 86 = .ok (.aload_n 0, 1) := by decide +kernel
theorem dX6_reading_87 : decode cX6_reading 87 = .ok (.getfield 31, 3) := by decide +kernel
theorem dX6_reading_90 : decode cX6_reading 90 = .ok (.getfield 106, 3) := by decide +kernel
theorem dX6_reading_93 : decode cX6_reading 93 = .ok (.getfield 189, 3) := by decide +kernel
theorem dX6_reading_96 : decode cX6_reading 96 = .ok (.iload_n 1, 1) := by decide +kernel
theorem dX6_reading_97 : decode cX6_reading 97 = .ok (.iaload, 1) := by decide +kernel
theorem dX6_reading_98 : decode cX6_reading 98 = .ok (.ireturn, 1) := by decide +kernel
theorem dX6_read_0 : decode cX6_read 0 = .ok (.aload_n 0, 1) := by decide +kernel
theorem dX6_read_1 : decode cX6_read 1 = .ok (.getfield 23, 3) := by decide +kernel
theorem dX6_read_4 : decode cX6_read 4 = .ok (.iload_n 1, 1) := by decide +kernel
theorem dX6_read_5 : decode cX6_read 5 = .ok (.invokevirtual 147, 3) := by decide +kernel
theorem dX6_read_8 : decode cX6_read 8 = .ok (.ifCond .eq 14, 3) := by decide +kernel
theorem dX6_read_11 : decode cX6_read 11 = .ok (.aload_n 0, 1) := by decide +kernel
theorem dX6_read_12 : decode cX6_read 12 = .ok (.getfield 31, 3) := by decide +kernel
theorem dX6_read_15 : decode cX6_read 15 = .ok (.iload_n 2, 1) := by decide +kernel
theorem dX6_read_16 : decode cX6_read 16 = .ok (.invokevirtual 159, 3) := by decide +kernel
theorem dX6_read_19 : decode cX6_read 19 = .ok (.ifCond .ne 6, 3) := by decide +kernel
theorem dX6_read_22 : decode cX6_read 22 = .ok (.ldc 127, 2) := by decide +kernel
theorem dX6_read_24 : decode cX6_read 24 = .ok (.ireturn, 1) := by decide +kernel
theorem dX6_read_25 : decode cX6_read 25 = .ok (.aload_n 0, 1) := by decide +kernel
theorem dX6_read_26 : decode cX6_read 26 = .ok (.getfield 31, 3) := by decide +kernel
theorem dX6_read_29 : decode cX6_read 29 = .ok (.iload_n 2, 1) := by decide +kernel
theorem dX6_read_30 : decode cX6_read 30 = .ok (.invokevirtual 191, 3) := by decide +kernel
theorem dX6_read_33 : decode cX6_read 33 = .ok (.ifCond .eq 6, 3) := by decide +kernel
theorem dX6_read_36 : decode cX6_read 36 = .ok (.ldc 194, 2) := by decide +kernel
theorem dX6_read_38 : decode cX6_read 38 = .ok (.ireturn, 1) := by decide +kernel
theorem dX6_read_39 : decode cX6_read 39 = .ok (.aload_n 0, 1) := by decide +kernel
theorem dX6_read_40 : decode cX6_read 40 = .ok (.getfield 31, 3) := by decide +kernel
theorem dX6_read_43 : decode cX6_read 43 = .ok (.iload_n 1, 1) := by decide +kernel
theorem dX6_read_44 : decode cX6_read 44 = .ok (.iload_n 2, 1) := by decide +kernel
theorem dX6_read_45 : decode cX6_read 45 = .ok (.invokevirtual 195, 3) := by decide +kernel
theorem dX6_read_48 : decode cX6_read 48 = .ok (.aload_n 0, 1) := by decide +kernel
theorem dX6_read_49 : decode cX6_read 49 = .ok (.getfield 31, 3) := by decide +kernel
theorem dX6_read_52 : decode cX6_read 52 = .ok (.getfield 168, 3) := by decide +kernel
theorem dX6_read_55 : decode cX6_read 55 = .ok (.iload_n 2, 1) := by decide +kernel
theorem dX6_read_56 : decode cX6_read 56 = .ok (.iaload, 1) := by decide +kernel
theorem dX6_read_57 : decode cX6_read 57 = .ok (.ireturn, 1) := by decide +kernel
theorem dX6_copy_0 : decode cX6_copy 0 = .ok (.aload_n 0, 1) := by decide +kernel
theorem dX6_copy_1 : decode cX6_copy 1 = .ok (.getfield 23, 3) := by decide +kernel
theorem dX6_copy_4 : decode cX6_copy 4 = .ok (.iload_n 1, 1) := by decide +kernel
theorem dX6_copy_5 : decode cX6_copy 5 = .ok (.invokevirtual 147, 3) := by decide +kernel
theorem dX6_copy_8 : decode cX6_copy 8 = .ok (.ifCond .eq 14, 3) := by decide +kernel
theorem dX6_copy_11 : decode cX6_copy 11 = .ok (.aload_n 0, 1) := by decide +kernel
theorem dX6_copy_12 : decode cX6_copy 12 = .ok (.getfield 31, 3) := by decide +kernel
theorem dX6_copy_15 : decode cX6_copy 15 = .ok (.iload_n 2, 1) := by decide +kernel
theorem dX6_copy_16 : decode cX6_copy 16 = .ok (.invokevirtual 159, 3) := by decide +kernel
theorem dX6_copy_19 : decode cX6_copy 19 = .ok (.ifCond .ne 6, 3) := by decide +kernel
theorem dX6_copy_22 : decode cX6_copy 22 = .ok (.ldc 127, 2) := by decide +kernel
theorem dX6_copy_24 : decode cX6_copy 24 = .ok (.ireturn, 1) := by decide +kernel
theorem dX6_copy_25 : decode cX6_copy 25 = .ok (.aload_n 0, 1) := by decide +kernel
theorem dX6_copy_26 : decode cX6_copy 26 = .ok (.getfield 23, 3) := by decide +kernel
theorem dX6_copy_29 : decode cX6_copy 29 = .ok (.getfield 150, 3) := by decide +kernel
theorem dX6_copy_32 : decode cX6_copy 32 = .ok (.iload_n 1, 1) := by decide +kernel
theorem dX6_copy_33 : decode cX6_copy 33 = .ok (.iaload, 1) := by decide +kernel
theorem dX6_copy_34 : decode cX6_copy 34 = .ok (.iconst 2, 1) := by decide +kernel
theorem dX6_copy_35 : decode cX6_copy 35 = .ok (.if_icmp .ne 14, 3) := by decide +kernel
theorem dX6_copy_38 : decode cX6_copy 38 = .ok (.aload_n 0, 1) := by decide +kernel
theorem dX6_copy_39 : decode cX6_copy 39 = .ok (.getfield 31, 3) := by decide +kernel
theorem dX6_copy_42 : decode cX6_copy 42 = .ok (.iload_n 2, 1) := by decide +kernel
theorem dX6_copy_43 : decode cX6_copy 43 = .ok (.invokevirtual 191, 3) := by decide +kernel
theorem dX6_copy_46 : decode cX6_copy 46 = .ok (.ifCond .eq 6, 3) := by decide +kernel
theorem dX6_copy_49 : decode cX6_copy 49 = .ok (.ldc 194, 2) := by decide +kernel
theorem dX6_copy_51 : decode cX6_copy 51 = .ok (.ireturn, 1) := by decide +kernel
theorem dX6_copy_52 : decode cX6_copy 52 = .ok (.aload_n 0, 1) := by decide +kernel
theorem dX6_copy_53 : decode cX6_copy 53 = .ok (.getfield 31, 3) := by decide +kernel
theorem dX6_copy_56 : decode cX6_copy 56 = .ok (.invokevirtual 199, 3) := by decide +kernel
theorem dX6_copy_59 : decode cX6_copy 59 = .ok (.ifCond .eq 6, 3) := by decide +kernel
theorem dX6_copy_62 : decode cX6_copy 62 = .ok (.ldc 74, 2) := by decide +kernel
theorem dX6_copy_64 : decode cX6_copy 64 = .ok (.ireturn, 1) := by decide +kernel
theorem dX6_copy_65 : decode cX6_copy 65 = .ok (.aload_n 0, 1) := by decide +kernel
theorem dX6_copy_66 : decode cX6_copy 66 = .ok (.getfield 31, 3) := by decide +kernel
theorem dX6_copy_69 : decode cX6_copy 69 = .ok (.iload_n 1, 1) := by decide +kernel
theorem dX6_copy_70 : decode cX6_copy 70 = .ok (.iload_n 2, 1) := by decide +kernel
theorem dX6_copy_71 : decode cX6_copy 71 = .ok (.invokevirtual 195, 3) := by decide +kernel
theorem dX6_copy_74 : decode cX6_copy 74 = .ok (.aload_n 0, 1) := by decide +kernel
theorem dX6_copy_75 : decode cX6_copy 75 = .ok (.getfield 31, 3) := by decide +kernel
theorem dX6_copy_78 : decode cX6_copy 78 = .ok (.aload_n 0, 1) := by decide +kernel
theorem dX6_copy_79 : decode cX6_copy 79 = .ok (.getfield 31, 3) := by decide +kernel
theorem dX6_copy_82 : decode cX6_copy 82 = .ok (.getfield 162, 3) := by decide +kernel
theorem dX6_copy_85 : decode cX6_copy 85 = .ok (.iload_n 2, 1) := by decide +kernel
theorem dX6_copy_86 : decode cX6_copy 86 = .ok (.iaload, 1) := by decide +kernel
theorem dX6_copy_87 : decode cX6_copy 87 = .ok (.aload_n 0, 1) := by decide +kernel
theorem dX6_copy_88 : decode cX6_copy 88 = .ok (.getfield 31, 3) := by decide +kernel
theorem dX6_copy_91 : decode cX6_copy 91 = .ok (.getfield 165, 3) := by decide +kernel
theorem dX6_copy_94 : decode cX6_copy 94 = .ok (.iload_n 2, 1) := by decide +kernel
theorem dX6_copy_95 : decode cX6_copy 95 = .ok (.iaload, 1) := by decide +kernel
theorem dX6_copy_96 : decode cX6_copy 96 = .ok (.iload_n 1, 1) := by decide +kernel
theorem dX6_copy_97 : decode cX6_copy 97 = .ok (.invokevirtual 203, 3) := by decide +kernel
theorem dX6_copy_100 : decode cX6_copy 100 = .ok (.ireturn, 1) := by decide +kernel
theorem dX6_write_0 : decode cX6_write 0 = .ok (.aload_n 0, 1) := by decide +kernel
theorem dX6_write_1 : decode cX6_write 1 = .ok (.getfield 23, 3) := by decide +kernel
theorem dX6_write_4 : decode cX6_write 4 = .ok (.iload_n 1, 1) := by decide +kernel
theorem dX6_write_5 : decode cX6_write 5 = .ok (.invokevirtual 147, 3) := by decide +kernel
theorem dX6_write_8 : decode cX6_write 8 = .ok (.ifCond .eq 14, 3) := by decide +kernel
theorem dX6_write_11 : decode cX6_write 11 = .ok (.aload_n 0, 1) := by decide +kernel
theorem dX6_write_12 : decode cX6_write 12 = .ok (.getfield 23, 3) := by decide +kernel
theorem dX6_write_15 : decode cX6_write 15 = .ok (.iload_n 2, 1) := by decide +kernel
theorem dX6_write_16 : decode cX6_write 16 = .ok (.invokevirtual 123, 3) := by decide +kernel
theorem dX6_write_19 : decode cX6_write 19 = .ok (.ifCond .ne 6, 3) := by decide +kernel
theorem dX6_write_22 : decode cX6_write 22 = .ok (.ldc 127, 2) := by decide +kernel
theorem dX6_write_24 : decode cX6_write 24 = .ok (.ireturn, 1) := by decide +kernel
theorem dX6_write_25 : decode cX6_write 25 = .ok (.aload_n 0, 1) := by decide +kernel
theorem dX6_write_26 : decode cX6_write 26 = .ok (.getfield 23, 3) := by decide +kernel
theorem dX6_write_29 : decode cX6_write 29 = .ok (.getfield 150, 3) := by decide +kernel
theorem dX6_write_32 : decode cX6_write 32 = .ok (.iload_n 1, 1) := by decide +kernel
theorem dX6_write_33 : decode cX6_write 33 = .ok (.iaload, 1) := by decide +kernel
theorem dX6_write_34 : decode cX6_write 34 = .ok (.iconst 2, 1) := by decide +kernel
theorem dX6_write_35 : decode cX6_write 35 = .ok (.if_icmp .ne 15, 3) := by decide +kernel
theorem dX6_write_38 : decode cX6_write 38 = .ok (.aload_n 0, 1) := by decide +kernel
theorem dX6_write_39 : decode cX6_write 39 = .ok (.getfield 31, 3) := by decide +kernel
theorem dX6_write_42 : decode cX6_write 42 = .ok (.iload_n 1, 1) := by decide +kernel
theorem dX6_write_43 : decode cX6_write 43 = .ok (.iload_n 2, 1) := by decide +kernel
theorem dX6_write_44 : decode cX6_write 44 = .ok (.invokevirtual 174, 3) := by decide +kernel
theorem dX6_write_47 : decode cX6_write 47 = .ok (.ifCond .ne 6, 3) := by decide +kernel
theorem dX6_write_50 : decode cX6_write 50 = .ok (.ldc 194, 2) := by decide +kernel
theorem dX6_write_52 : decode cX6_write 52 = .ok (.ireturn, 1) := by decide +kernel
theorem dX6_write_53 : decode cX6_write 53 = .ok (.aload_n 0, 1) := by decide +kernel
theorem dX6_write_54 : decode cX6_write 54 = .ok (.getfield 31, 3) := by decide +kernel
theorem dX6_write_57 : decode cX6_write 57 = .ok (.iload_n 2, 1) := by decide +kernel
theorem dX6_write_58 : decode cX6_write 58 = .ok (.aload_n 0, 1) := by decide +kernel
theorem dX6_write_59 : decode cX6_write 59 = .ok (.getfield 31, 3) := by decide +kernel
theorem dX6_write_62 : decode cX6_write 62 = .ok (.iload_n 1, 1) := by decide +kernel
theorem dX6_write_63 : decode cX6_write 63 = .ok (.iload_n 2, 1) := by decide +kernel
theorem dX6_write_64 : decode cX6_write 64 = .ok (.invokevirtual 177, 3) := by decide +kernel
theorem dX6_write_67 : decode cX6_write 67 = .ok (.iload_n 1, 1) := by decide +kernel
theorem dX6_write_68 : decode cX6_write 68 = .ok (.invokevirtual 203, 3) := by decide +kernel
theorem dX6_write_71 : decode cX6_write 71 = .ok (.ireturn, 1) := by decide +kernel
theorem dX6_teach_0 : decode cX6_teach 0 = .ok (.aload_n 0, 1) := by decide +kernel
theorem dX6_teach_1 : decode cX6_teach 1 = .ok (.getfield 23, 3) := by decide +kernel
theorem dX6_teach_4 : decode cX6_teach 4 = .ok (.iload_n 1, 1) := by decide +kernel
theorem dX6_teach_5 : decode cX6_teach 5 = .ok (.invokevirtual 147, 3) := by decide +kernel
theorem dX6_teach_8 : decode cX6_teach 8 = .ok (.ifCond .eq 30, 3) := by decide +kernel
theorem dX6_teach_11 : decode cX6_teach 11 = .ok (.aload_n 0, 1) := by decide +kernel
theorem dX6_teach_12 : decode cX6_teach 12 = .ok (.getfield 23, 3) := by decide +kernel
theorem dX6_teach_15 : decode cX6_teach 15 = .ok (.iload_n 2, 1) := by decide +kernel
theorem dX6_teach_16 : decode cX6_teach 16 = .ok (.invokevirtual 147, 3) := by decide +kernel
theorem dX6_teach_19 : decode cX6_teach 19 = .ok (.ifCond .eq 19, 3) := by decide +kernel
theorem dX6_teach_22 : decode cX6_teach 22 = .ok (.iload_n 1, 1) := by decide +kernel
theorem dX6_teach_23 : decode cX6_teach 23 = .ok (.iload_n 2, 1) := by decide +kernel
theorem dX6_teach_24 : decode cX6_teach 24 = .ok (.if_icmp .eq 14, 3) := by decide +kernel
theorem dX6_teach_27 : decode cX6_teach 27 = .ok (.aload_n 0, 1) := by decide +kernel
theorem dX6_teach_28 : decode cX6_teach 28 = .ok (.getfield 23, 3) := by decide +kernel
theorem dX6_teach_31 : decode cX6_teach 31 = .ok (.iload_n 3, 1) := by decide +kernel
theorem dX6_teach_32 : decode cX6_teach 32 = .ok (.invokevirtual 123, 3) := by decide +kernel
theorem dX6_teach_35 : decode cX6_teach 35 = .ok (.ifCond .ne 6, 3) := by decide +kernel
theorem dX6_teach_38 : decode cX6_teach 38 = .ok (.ldc 127, 2) := by decide +kernel
theorem dX6_teach_40 : decode cX6_teach 40 = .ok (.ireturn, 1) := by decide +kernel
theorem dX6_teach_41 : decode cX6_teach 41 = .ok (.aload_n 0, 1) := by decide +kernel
theorem dX6_teach_42 : decode cX6_teach 42 = .ok (.getfield 23, 3) := by decide +kernel
theorem dX6_teach_45 : decode cX6_teach 45 = .ok (.getfield 150, 3) := by decide +kernel
theorem dX6_teach_48 : decode cX6_teach 48 = .ok (.iload_n 1, 1) := by decide +kernel
theorem dX6_teach_49 : decode cX6_teach 49 = .ok (.iaload, 1) := by decide +kernel
theorem dX6_teach_50 : decode cX6_teach 50 = .ok (.iconst 4, 1) := by decide +kernel
theorem dX6_teach_51 : decode cX6_teach 51 = .ok (.if_icmp .ne 15, 3) := by decide +kernel
theorem dX6_teach_54 : decode cX6_teach 54 = .ok (.aload_n 0, 1) := by decide +kernel
theorem dX6_teach_55 : decode cX6_teach 55 = .ok (.getfield 31, 3) := by decide +kernel
theorem dX6_teach_58 : decode cX6_teach 58 = .ok (.iload_n 1, 1) := by decide +kernel
theorem dX6_teach_59 : decode cX6_teach 59 = .ok (.iload_n 3, 1) := by decide +kernel
theorem dX6_teach_60 : decode cX6_teach 60 = .ok (.invokevirtual 174, 3) := by decide +kernel
theorem dX6_teach_63 : decode cX6_teach 63 = .ok (.ifCond .ne 6, 3) := by decide +kernel
theorem dX6_teach_66 : decode cX6_teach 66 = .ok (.ldc 194, 2) := by decide +kernel
theorem dX6_teach_68 : decode cX6_teach 68 = .ok (.ireturn, 1) := by decide +kernel
theorem dX6_teach_69 : decode cX6_teach 69 = .ok (.aload_n 0, 1) := by decide +kernel
theorem dX6_teach_70 : decode cX6_teach 70 = .ok (.getfield 31, 3) := by decide +kernel
theorem dX6_teach_73 : decode cX6_teach 73 = .ok (.iload_n 1, 1) := by decide +kernel
theorem dX6_teach_74 : decode cX6_teach 74 = .ok (.iload_n 3, 1) := by decide +kernel
theorem dX6_teach_75 : decode cX6_teach 75 = .ok (.invokevirtual 177, 3) := by decide +kernel
theorem dX6_teach_78 : decode cX6_teach 78 = .ok (.istore 4, 2) := by decide +kernel
theorem dX6_teach_80 : decode cX6_teach 80 = .ok (.aload_n 0, 1) := by decide +kernel
theorem dX6_teach_81 : decode cX6_teach 81 = .ok (.getfield 31, 3) := by decide +kernel
theorem dX6_teach_84 : decode cX6_teach 84 = .ok (.iload_n 2, 1) := by decide +kernel
theorem dX6_teach_85 : decode cX6_teach 85 = .ok (.iload_n 3, 1) := by decide +kernel
theorem dX6_teach_86 : decode cX6_teach 86 = .ok (.iload 4, 2) := by decide +kernel
theorem dX6_teach_88 : decode cX6_teach 88 = .ok (.invokevirtual 207, 3) := by decide +kernel
theorem dX6_teach_91 : decode cX6_teach 91 = .ok (.aload_n 0, 1) := by decide +kernel
theorem dX6_teach_92 : decode cX6_teach 92 = .ok (.getfield 31, 3) := by decide +kernel
theorem dX6_teach_95 : decode cX6_teach 95 = .ok (.iload_n 1, 1) := by decide +kernel
theorem dX6_teach_96 : decode cX6_teach 96 = .ok (.iload_n 3, 1) := by decide +kernel
theorem dX6_teach_97 : decode cX6_teach 97 = .ok (.iload 4, 2) := by decide +kernel
theorem dX6_teach_99 : decode cX6_teach 99 = .ok (.invokevirtual 207, 3) := by decide +kernel
theorem dX6_teach_102 : decode cX6_teach 102 = .ok (.iload 4, 2) := by decide +kernel
theorem dX6_teach_104 : decode cX6_teach 104 = .ok (.ireturn, 1) := by decide +kernel
theorem dX6_dusk_0 : decode cX6_dusk 0 = .ok (.iload_n 1, 1) := by decide +kernel
theorem dX6_dusk_1 : decode cX6_dusk 1 = .ok (.iconst 1, 1) := by decide +kernel
theorem dX6_dusk_2 : decode cX6_dusk 2 = .ok (.if_icmp .lt 10, 3) := by decide +kernel
theorem dX6_dusk_5 : decode cX6_dusk 5 = .ok (.iload_n 1, 1) := by decide +kernel
theorem dX6_dusk_6 : decode cX6_dusk 6 = .ok (.sipush 200, 3) := by decide +kernel
theorem dX6_dusk_9 : decode cX6_dusk 9 = .ok (.if_icmp .le 6, 3) := by decide +kernel
theorem dX6_dusk_12 : decode cX6_dusk 12 = .ok (.ldc 70, 2) := by decide +kernel
theorem dX6_dusk_14 : decode cX6_dusk 14 = .ok (.ireturn, 1) := by decide +kernel
theorem dX6_dusk_15 : decode cX6_dusk 15 = .ok (.aload_n 0, 1) := by decide +kernel
theorem dX6_dusk_16 : decode cX6_dusk 16 = .ok (.getfield 31, 3) := by decide +kernel
theorem dX6_dusk_19 : decode cX6_dusk 19 = .ok (.iload_n 1, 1) := by decide +kernel
theorem dX6_dusk_20 : decode cX6_dusk 20 = .ok (.invokevirtual 211, 3) := by decide +kernel
theorem dX6_dusk_23 : decode cX6_dusk 23 = .ok (.aload_n 0, 1) := by decide +kernel
theorem dX6_dusk_24 : decode cX6_dusk 24 = .ok (.getfield 31, 3) := by decide +kernel
theorem dX6_dusk_27 : decode cX6_dusk 27 = .ok (.getfield 113, 3) := by decide +kernel
theorem dX6_dusk_30 : decode cX6_dusk 30 = .ok (.ireturn, 1) := by decide +kernel
theorem dX6_run_0 : decode cX6_run 0 = .ok (.iload_n 1, 1) := by decide +kernel
theorem dX6_run_1 : decode cX6_run 1 = .ok (.iconst 1, 1) := by decide +kernel
theorem dX6_run_2 : decode cX6_run 2 = .ok (.if_icmp .lt 9, 3) := by decide +kernel
theorem dX6_run_5 : decode cX6_run 5 = .ok (.iload_n 1, 1) := by decide +kernel
theorem dX6_run_6 : decode cX6_run 6 = .ok (.bipush 100, 2) := by decide +kernel
theorem dX6_run_8 : decode cX6_run 8 = .ok (.if_icmp .le 6, 3) := by decide +kernel
theorem dX6_run_11 : decode cX6_run 11 = .ok (.ldc 70, 2) := by decide +kernel
theorem dX6_run_13 : decode cX6_run 13 = .ok (.ireturn, 1) := by decide +kernel
theorem dX6_run_14 : decode cX6_run 14 = .ok (.aload_n 0, 1) := by decide +kernel
theorem dX6_run_15 : decode cX6_run 15 = .ok (.getfield 31, 3) := by decide +kernel
theorem dX6_run_18 : decode cX6_run 18 = .ok (.getfield 103, 3) := by decide +kernel
theorem dX6_run_21 : decode cX6_run 21 = .ok (.ifCond .ne 6, 3) := by decide +kernel
theorem dX6_run_24 : decode cX6_run 24 = .ok (.ldc 194, 2) := by decide +kernel
theorem dX6_run_26 : decode cX6_run 26 = .ok (.ireturn, 1) := by decide +kernel
theorem dX6_run_27 : decode cX6_run 27 = .ok (.aload_n 0, 1) := by decide +kernel
theorem dX6_run_28 : decode cX6_run 28 = .ok (.getfield 31, 3) := by decide +kernel
theorem dX6_run_31 : decode cX6_run 31 = .ok (.iload_n 1, 1) := by decide +kernel
theorem dX6_run_32 : decode cX6_run 32 = .ok (.invokevirtual 214, 3) := by decide +kernel
theorem dX6_run_35 : decode cX6_run 35 = .ok (.aload_n 0, 1) := by decide +kernel
theorem dX6_run_36 : decode cX6_run 36 = .ok (.getfield 31, 3) := by decide +kernel
theorem dX6_run_39 : decode cX6_run 39 = .ok (.invokevirtual 217, 3) := by decide +kernel
theorem dX6_run_42 : decode cX6_run 42 = .ok (.ireturn, 1) := by decide +kernel
theorem dX6_where_0 : decode cX6_where 0 = .ok (.aload_n 0, 1) := by decide +kernel
theorem dX6_where_1 : decode cX6_where 1 = .ok (.getfield 23, 3) := by decide +kernel
theorem dX6_where_4 : decode cX6_where 4 = .ok (.iload_n 1, 1) := by decide +kernel
theorem dX6_where_5 : decode cX6_where 5 = .ok (.invokevirtual 123, 3) := by decide +kernel
theorem dX6_where_8 : decode cX6_where 8 = .ok (.ifCond .ne 6, 3) := by decide +kernel
theorem dX6_where_11 : decode cX6_where 11 = .ok (.ldc 127, 2) := by decide +kernel
theorem dX6_where_13 : decode cX6_where 13 = .ok (.ireturn, 1) := by decide +kernel
theorem dX6_where_14 : decode cX6_where 14 = .ok (.aload_n 0, 1) := by decide +kernel
theorem dX6_where_15 : decode cX6_where 15 = .ok (.getfield 31, 3) := by decide +kernel
theorem dX6_where_18 : decode cX6_where 18 = .ok (.getfield 144, 3) := by decide +kernel
theorem dX6_where_21 : decode cX6_where 21 = .ok (.iload_n 1, 1) := by decide +kernel
theorem dX6_where_22 : decode cX6_where 22 = .ok (.iaload, 1) := by decide +kernel
theorem dX6_where_23 : decode cX6_where 23 = .ok (.bipush 9, 2) := by decide +kernel
theorem dX6_where_25 : decode cX6_where 25 = .ok (.if_icmp .lt 6, 3) := by decide +kernel
theorem dX6_where_28 : decode cX6_where 28 = .ok (.ldc 194, 2) := by decide +kernel
theorem dX6_where_30 : decode cX6_where 30 = .ok (.ireturn, 1) := by decide +kernel
theorem dX6_where_31 : decode cX6_where 31 = .ok (.aload_n 0, 1) := by decide +kernel
theorem dX6_where_32 : decode cX6_where 32 = .ok (.getfield 31, 3) := by decide +kernel
theorem dX6_where_35 : decode cX6_where 35 = .ok (.getfield 144, 3) := by decide +kernel
theorem dX6_where_38 : decode cX6_where 38 = .ok (.iload_n 1, 1) := by decide +kernel
theorem dX6_where_39 : decode cX6_where 39 = .ok (.dup2, 1) := by decide +kernel
theorem dX6_where_40 : decode cX6_where 40 = .ok (.iaload, 1) := by decide +kernel
theorem dX6_where_41 : decode cX6_where 41 = .ok (.iconst 1, 1) := by decide +kernel
theorem dX6_where_42 : decode cX6_where 42 = .ok (.iadd, 1) := by decide +kernel
theorem dX6_where_43 : decode cX6_where 43 = .ok (.iastore, 1) := by decide +kernel
theorem dX6_where_44 : decode cX6_where 44 = .ok (.aload_n 0, 1) := by decide +kernel
theorem dX6_where_45 : decode cX6_where 45 = .ok (.getfield 31, 3) := by decide +kernel
theorem dX6_where_48 : decode cX6_where 48 = .ok (.iload_n 1, 1) := by decide +kernel
theorem dX6_where_49 : decode cX6_where 49 = .ok (.invokevirtual 221, 3) := by decide +kernel
theorem dX6_where_52 : decode cX6_where 52 = .ok (.ireturn, 1) := by decide +kernel
theorem dX6_request_0 : decode cX6_request 0 = .ok (.aload_n 0, 1) := by decide +kernel
theorem dX6_request_1 : decode cX6_request 1 = .ok (.getfield 23, 3) := by decide +kernel
theorem dX6_request_4 : decode cX6_request 4 = .ok (.iload_n 1, 1) := by decide +kernel
theorem dX6_request_5 : decode cX6_request 5 = .ok (.invokevirtual 147, 3) := by decide +kernel
theorem dX6_request_8 : decode cX6_request 8 = .ok (.ifCond .eq 14, 3) := by decide +kernel
theorem dX6_request_11 : decode cX6_request 11 = .ok (.aload_n 0, 1) := by decide +kernel
theorem dX6_request_12 : decode cX6_request 12 = .ok (.getfield 23, 3) := by decide +kernel
theorem dX6_request_15 : decode cX6_request 15 = .ok (.iload_n 2, 1) := by decide +kernel
theorem dX6_request_16 : decode cX6_request 16 = .ok (.invokevirtual 123, 3) := by decide +kernel
theorem dX6_request_19 : decode cX6_request 19 = .ok (.ifCond .ne 6, 3) := by decide +kernel
theorem dX6_request_22 : decode cX6_request 22 = .ok (.ldc 127, 2) := by decide +kernel
theorem dX6_request_24 : decode cX6_request 24 = .ok (.ireturn, 1) := by decide +kernel
theorem dX6_request_25 : decode cX6_request 25 = .ok (.iload_n 3, 1) := by decide +kernel
theorem dX6_request_26 : decode cX6_request 26 = .ok (.ifCond .lt 9, 3) := by decide +kernel
theorem dX6_request_29 : decode cX6_request 29 = .ok (.iload_n 3, 1) := by decide +kernel
theorem dX6_request_30 : decode cX6_request 30 = .ok (.bipush 99, 2) := by decide +kernel
theorem dX6_request_32 : decode cX6_request 32 = .ok (.if_icmp .le 6, 3) := by decide +kernel
theorem dX6_request_35 : decode cX6_request 35 = .ok (.ldc 70, 2) := by decide +kernel
theorem dX6_request_37 : decode cX6_request 37 = .ok (.ireturn, 1) := by decide +kernel
theorem dX6_request_38 : decode cX6_request 38 = .ok (.aload_n 0, 1) := by decide +kernel
theorem dX6_request_39 : decode cX6_request 39 = .ok (.getfield 49, 3) := by decide +kernel
theorem dX6_request_42 : decode cX6_request 42 = .ok (.iload_n 1, 1) := by decide +kernel
theorem dX6_request_43 : decode cX6_request 43 = .ok (.iload_n 2, 1) := by decide +kernel
theorem dX6_request_44 : decode cX6_request 44 = .ok (.iload_n 3, 1) := by decide +kernel
theorem dX6_request_45 : decode cX6_request 45 = .ok (.invokevirtual 224, 3) := by decide +kernel
theorem dX6_request_48 : decode cX6_request 48 = .ok (.ireturn, 1) := by decide +kernel
theorem dX6_forget_0 : decode cX6_forget 0 = .ok (.aload_n 0, 1) := by decide +kernel
theorem dX6_forget_1 : decode cX6_forget 1 = .ok (.getfield 49, 3) := by decide +kernel
theorem dX6_forget_4 : decode cX6_forget 4 = .ok (.getfield 91, 3) := by decide +kernel
theorem dX6_forget_7 : decode cX6_forget 7 = .ok (.istore_n 1, 1) := by decide +kernel
theorem dX6_forget_8 : decode cX6_forget 8 = .ok (.aload_n 0, 1) := by decide +kernel
theorem dX6_forget_9 : decode cX6_forget 9 = .ok (.getfield 49, 3) := by decide +kernel
theorem dX6_forget_12 : decode cX6_forget 12 = .ok (.iconst 0, 1) := by decide +kernel
theorem dX6_forget_13 : decode cX6_forget 13 = .ok (.putfield 91, 3) := by decide +kernel
theorem dX6_forget_16 : decode cX6_forget 16 = .ok (.iload_n 1, 1) := by decide +kernel
theorem dX6_forget_17 : decode cX6_forget 17 = .ok (.ireturn, 1) := by decide +kernel
theorem dX6_grant_0 : decode cX6_grant 0 = .ok (.iload_n 1, 1) := by decide +kernel
theorem dX6_grant_1 : decode cX6_grant 1 = .ok (.aload_n 0, 1) := by decide +kernel
theorem dX6_grant_2 : decode cX6_grant 2 = .ok (.getfield 49, 3) := by decide +kernel
theorem dX6_grant_5 : decode cX6_grant 5 = .ok (.getfield 91, 3) := by decide +kernel
theorem dX6_grant_8 : decode cX6_grant 8 = .ok (.invokestatic 227, 3) := by decide +kernel
theorem dX6_grant_11 : decode cX6_grant 11 = .ok (.ifCond .ne 6, 3) := by decide +kernel
theorem dX6_grant_14 : decode cX6_grant 14 = .ok (.ldc 127, 2) := by decide +kernel
theorem dX6_grant_16 : decode cX6_grant 16 = .ok (.ireturn, 1) := by decide +kernel
theorem dX6_grant_17 : decode cX6_grant 17 = .ok (.aload_n 0, 1) := by decide +kernel
theorem dX6_grant_18 : decode cX6_grant 18 = .ok (.getfield 49, 3) := by decide +kernel
theorem dX6_grant_21 : decode cX6_grant 21 = .ok (.iload_n 1, 1) := by decide +kernel
theorem dX6_grant_22 : decode cX6_grant 22 = .ok (.aload_n 0, 1) := by decide +kernel
theorem dX6_grant_23 : decode cX6_grant 23 = .ok (.getfield 31, 3) := by decide +kernel
theorem dX6_grant_26 : decode cX6_grant 26 = .ok (.invokevirtual 230, 3) := by decide +kernel
theorem dX6_grant_29 : decode cX6_grant 29 = .ok (.ireturn, 1) := by decide +kernel
theorem dX6_best_0 : decode cX6_best 0 = .ok (.iload_n 1, 1) := by decide +kernel
theorem dX6_best_1 : decode cX6_best 1 = .ok (.ifCond .lt 19, 3) := by decide +kernel
theorem dX6_best_4 : decode cX6_best 4 = .ok (.iload_n 1, 1) := by decide +kernel
theorem dX6_best_5 : decode cX6_best 5 = .ok (.sipush 200, 3) := by decide +kernel
theorem dX6_best_8 : decode cX6_best 8 = .ok (.if_icmp .gt 12, 3) := by decide +kernel
theorem dX6_best_11 : decode cX6_best 11 = .ok (.iload_n 2, 1) := by decide +kernel
theorem dX6_best_12 : decode cX6_best 12 = .ok (.ifCond .lt 8, 3) := by decide +kernel
theorem dX6_best_15 : decode cX6_best 15 = .ok (.iload_n 2, 1) := by decide +kernel
theorem dX6_best_16 : decode cX6_best 16 = .ok (.iconst 2, 1) := by decide +kernel
theorem dX6_best_17 : decode cX6_best 17 = .ok (.if_icmp .le 6, 3) := by decide +kernel
theorem dX6_best_20 : decode cX6_best 20 = .ok (.ldc 70, 2) := by decide +kernel
theorem dX6_best_22 : decode cX6_best 22 = .ok (.ireturn, 1) := by decide +kernel
theorem dX6_best_23 : decode cX6_best 23 = .ok (.aload_n 0, 1) := by decide +kernel
theorem dX6_best_24 : decode cX6_best 24 = .ok (.getfield 56, 3) := by decide +kernel
theorem dX6_best_27 : decode cX6_best 27 = .ok (.invokevirtual 234, 3) := by decide +kernel
theorem dX6_best_30 : decode cX6_best 30 = .ok (.iconst 0, 1) := by decide +kernel
theorem dX6_best_31 : decode cX6_best 31 = .ok (.istore_n 3, 1) := by decide +kernel
theorem dX6_best_32 : decode cX6_best 32 = .ok (.iload_n 3, 1) := by decide +kernel
theorem dX6_best_33 : decode cX6_best 33 = .ok (.aload_n 0, 1) := by decide +kernel
theorem dX6_best_34 : decode cX6_best 34 = .ok (.getfield 23, 3) := by decide +kernel
theorem dX6_best_37 : decode cX6_best 37 = .ok (.getfield 94, 3) := by decide +kernel
theorem dX6_best_40 : decode cX6_best 40 = .ok (.if_icmp .ge 15, 3) := by decide +kernel
theorem dX6_best_43 : decode cX6_best 43 = .ok (.aload_n 0, 1) := by decide +kernel
theorem dX6_best_44 : decode cX6_best 44 = .ok (.iload_n 3, 1) := by decide +kernel
theorem dX6_best_45 : decode cX6_best 45 = .ok (.iload_n 1, 1) := by decide +kernel
theorem dX6_best_46 : decode cX6_best 46 = .ok (.invokevirtual 237, 3) := by decide +kernel
theorem dX6_best_49 : decode cX6_best 49 = .ok (.iinc 3 1, 3) := by decide +kernel
theorem dX6_best_52 : decode cX6_best 52 = .ok (.goto (-20), 3) := by decide +kernel
theorem dX6_best_55 : decode cX6_best 55 = .ok (.iload_n 2, 1) := by decide +kernel
theorem dX6_best_56 : decode cX6_best 56 = .ok (.lookupswitch 44 #[(0, 28), (1, 36)], 28) := by decide +kernel
theorem dX6_best_84 : decode cX6_best 84 = .ok (.aload_n 0, 1) := by decide +kernel
theorem dX6_best_85 : decode cX6_best 85 = .ok (.getfield 56, 3) := by decide +kernel
theorem dX6_best_88 : decode cX6_best 88 = .ok (.getfield 240, 3) := by decide +kernel
theorem dX6_best_91 : decode cX6_best 91 = .ok (.ireturn, 1) := by decide +kernel
theorem dX6_best_92 : decode cX6_best 92 = .ok (.aload_n 0, 1) := by decide +kernel
theorem dX6_best_93 : decode cX6_best 93 = .ok (.getfield 56, 3) := by decide +kernel
theorem dX6_best_96 : decode cX6_best 96 = .ok (.getfield 243, 3) := by decide +kernel
theorem dX6_best_99 : decode cX6_best 99 = .ok (.ireturn, 1) := by decide +kernel
theorem dX6_best_100 : decode cX6_best 100 = .ok (.aload_n 0, 1) := by decide +kernel
theorem dX6_best_101 : decode cX6_best 101 = .ok (.getfield 56, 3) := by decide +kernel
theorem dX6_best_104 : decode cX6_best 104 = .ok (.getfield 246, 3) := by decide +kernel
theorem dX6_best_107 : decode cX6_best 107 = .ok (.ireturn, 1) := by decide +kernel
theorem dX6_chooseFor_0 : decode cX6_chooseFor 0 = .ok (.aload_n 0, 1) := by decide +kernel
theorem dX6_chooseFor_1 : decode cX6_chooseFor 1 = .ok (.getfield 49, 3) := by decide +kernel
theorem dX6_chooseFor_4 : decode cX6_chooseFor 4 = .ok (.iload_n 1, 1) := by decide +kernel
theorem dX6_chooseFor_5 : decode cX6_chooseFor 5 = .ok (.invokevirtual 249, 3) := by decide +kernel
theorem dX6_chooseFor_8 : decode cX6_chooseFor 8 = .ok (.istore_n 3, 1) := by decide +kernel
theorem dX6_chooseFor_9 : decode cX6_chooseFor 9 = .ok (.iconst 0, 1) := by decide +kernel
theorem dX6_chooseFor_10 : decode cX6_chooseFor 10 = .ok (.istore 4, 2) := by decide +kernel
theorem dX6_chooseFor_12 : decode cX6_chooseFor 12 = .ok (.iconst (-1), 1) := by decide +kernel
theorem dX6_chooseFor_13 : decode cX6_chooseFor 13 = .ok (.istore 5, 2) := by decide +kernel
theorem dX6_chooseFor_15 : decode cX6_chooseFor 15 = .ok (.iconst 0, 1) := by decide +kernel
theorem dX6_chooseFor_16 : decode cX6_chooseFor 16 = .ok (.istore 6, 2) := by decide +kernel
theorem dX6_chooseFor_18 : decode cX6_chooseFor 18 = .ok (.iconst 0, 1) := by decide +kernel
theorem dX6_chooseFor_19 : decode cX6_chooseFor 19 = .ok (.istore 7, 2) := by decide +kernel
theorem dX6_chooseFor_21 : decode cX6_chooseFor 21 = .ok (.iload 7, 2) := by decide +kernel
theorem dX6_chooseFor_23 : decode cX6_chooseFor 23 = .ok (.iload_n 3, 1) := by decide +kernel
theorem dX6_chooseFor_24 : decode cX6_chooseFor 24 = .ok (.if_icmp .gt 120, 3) := by decide +kernel
theorem dX6_chooseFor_27 : decode cX6_chooseFor 27 = .ok (.iload 7, 2) := by decide +kernel
theorem dX6_chooseFor_29 : decode cX6_chooseFor 29 = .ok (.iload_n 3, 1) := by decide +kernel
theorem dX6_chooseFor_30 : decode cX6_chooseFor 30 = .ok (.iand, 1) := by decide +kernel
theorem dX6_chooseFor_31 : decode cX6_chooseFor 31 = .ok (.iload 7, 2) := by decide +kernel
theorem dX6_chooseFor_33 : decode cX6_chooseFor 33 = .ok (.if_icmp .eq 6, 3) := by decide +kernel
theorem dX6_chooseFor_36 : decode cX6_chooseFor 36 = .ok (.goto 102, 3) := by decide +kernel
theorem dX6_chooseFor_39 : decode cX6_chooseFor 39 = .ok (.aload_n 0, 1) := by decide +kernel
theorem dX6_chooseFor_40 : decode cX6_chooseFor 40 = .ok (.getfield 35, 3) := by decide +kernel
theorem dX6_chooseFor_43 : decode cX6_chooseFor 43 = .ok (.aload_n 0, 1) := by decide +kernel
theorem dX6_chooseFor_44 : decode cX6_chooseFor 44 = .ok (.getfield 31, 3) := by decide +kernel
theorem dX6_chooseFor_47 : decode cX6_chooseFor 47 = .ok (.invokevirtual 252, 3) := by decide +kernel
theorem dX6_chooseFor_50 : decode cX6_chooseFor 50 = .ok (.aload_n 0, 1) := by decide +kernel
theorem dX6_chooseFor_51 : decode cX6_chooseFor 51 = .ok (.getfield 49, 3) := by decide +kernel
theorem dX6_chooseFor_54 : decode cX6_chooseFor 54 = .ok (.iload 7, 2) := by decide +kernel
theorem dX6_chooseFor_56 : decode cX6_chooseFor 56 = .ok (.aload_n 0, 1) := by decide +kernel
theorem dX6_chooseFor_57 : decode cX6_chooseFor 57 = .ok (.getfield 35, 3) := by decide +kernel
theorem dX6_chooseFor_60 : decode cX6_chooseFor 60 = .ok (.invokevirtual 230, 3) := by decide +kernel
theorem dX6_chooseFor_63 : decode cX6_chooseFor 63 = .ok (.istore 8, 2) := by decide +kernel
theorem dX6_chooseFor_65 : decode cX6_chooseFor 65 = .ok (.aload_n 0, 1) := by decide +kernel
theorem dX6_chooseFor_66 : decode cX6_chooseFor 66 = .ok (.getfield 35, 3) := by decide +kernel
theorem dX6_chooseFor_69 : decode cX6_chooseFor 69 = .ok (.iload_n 1, 1) := by decide +kernel
theorem dX6_chooseFor_70 : decode cX6_chooseFor 70 = .ok (.iload_n 2, 1) := by decide +kernel
theorem dX6_chooseFor_71 : decode cX6_chooseFor 71 = .ok (.invokevirtual 131, 3) := by decide +kernel
theorem dX6_chooseFor_74 : decode cX6_chooseFor 74 = .ok (.istore 9, 2) := by decide +kernel
theorem dX6_chooseFor_76 : decode cX6_chooseFor 76 = .ok (.iload 8, 2) := by decide +kernel
theorem dX6_chooseFor_78 : decode cX6_chooseFor 78 = .ok (.iload 9, 2) := by decide +kernel
theorem dX6_chooseFor_80 : decode cX6_chooseFor 80 = .ok (.ifCond .eq 15, 3) := by decide +kernel
theorem dX6_chooseFor_83 : decode cX6_chooseFor 83 = .ok (.aload_n 0, 1) := by decide +kernel
theorem dX6_chooseFor_84 : decode cX6_chooseFor 84 = .ok (.getfield 23, 3) := by decide +kernel
theorem dX6_chooseFor_87 : decode cX6_chooseFor 87 = .ok (.getfield 128, 3) := by decide +kernel
theorem dX6_chooseFor_90 : decode cX6_chooseFor 90 = .ok (.iload_n 1, 1) := by decide +kernel
theorem dX6_chooseFor_91 : decode cX6_chooseFor 91 = .ok (.iaload, 1) := by decide +kernel
theorem dX6_chooseFor_92 : decode cX6_chooseFor 92 = .ok (.goto 4, 3) := by decide +kernel
theorem dX6_chooseFor_95 : decode cX6_chooseFor 95 = .ok (.iconst 0, 1) := by decide +kernel
theorem dX6_chooseFor_96 : decode cX6_chooseFor 96 = .ok (.iadd, 1) := by decide +kernel
theorem dX6_chooseFor_97 : decode cX6_chooseFor 97 = .ok (.istore 8, 2) := by decide +kernel
theorem dX6_chooseFor_99 : decode cX6_chooseFor 99 = .ok (.iload 8, 2) := by decide +kernel
theorem dX6_chooseFor_101 : decode cX6_chooseFor 101 = .ok (.iload 5, 2) := by decide +kernel
theorem dX6_chooseFor_103 : decode cX6_chooseFor 103 = .ok (.if_icmp .gt 23, 3) := by decide +kernel
theorem dX6_chooseFor_106 : decode cX6_chooseFor 106 = .ok (.iload 8, 2) := by decide +kernel
theorem dX6_chooseFor_108 : decode cX6_chooseFor 108 = .ok (.iload 5, 2) := by decide +kernel
theorem dX6_chooseFor_110 : decode cX6_chooseFor 110 = .ok (.if_icmp .ne 28, 3) := by decide +kernel
theorem dX6_chooseFor_113 : decode cX6_chooseFor 113 = .ok (.iload 7, 2) := by decide +kernel
theorem dX6_chooseFor_115 : decode cX6_chooseFor 115 = .ok (.invokestatic 256, 3) := by decide +kernel
theorem dX6_chooseFor_118 : decode cX6_chooseFor 118 = .ok (.iload 4, 2) := by decide +kernel
theorem dX6_chooseFor_120 : decode cX6_chooseFor 120 = .ok (.invokestatic 256, 3) := by decide +kernel
theorem dX6_chooseFor_123 : decode cX6_chooseFor 123 = .ok (.if_icmp .ge 15, 3) := by decide +kernel
theorem dX6_chooseFor_126 : decode cX6_chooseFor 126 = .ok (.iload 7, 2) := by decide +kernel
theorem dX6_chooseFor_128 : decode cX6_chooseFor 128 = .ok (.istore 4, 2) := by decide +kernel
theorem dX6_chooseFor_130 : decode cX6_chooseFor 130 = .ok (.iload 8, 2) := by decide +kernel
theorem dX6_chooseFor_132 : decode cX6_chooseFor 132 = .ok (.istore 5, 2) := by decide +kernel
theorem dX6_chooseFor_134 : decode cX6_chooseFor 134 = .ok (.iload 9, 2) := by decide +kernel
theorem dX6_chooseFor_136 : decode cX6_chooseFor 136 = .ok (.istore 6, 2) := by decide +kernel
theorem dX6_chooseFor_138 : decode cX6_chooseFor 138 = .ok (.iinc 7 1, 3) := by decide +kernel
theorem dX6_chooseFor_141 : decode cX6_chooseFor 141 = .ok (.goto (-120), 3) := by decide +kernel
theorem dX6_chooseFor_144 : decode cX6_chooseFor 144 = .ok (.aload_n 0, 1) := by decide +kernel
theorem dX6_chooseFor_145 : decode cX6_chooseFor 145 = .ok (.getfield 56, 3) := by decide +kernel
theorem dX6_chooseFor_148 : decode cX6_chooseFor 148 = .ok (.iload_n 1, 1) := by decide +kernel
theorem dX6_chooseFor_149 : decode cX6_chooseFor 149 = .ok (.iload 4, 2) := by decide +kernel
theorem dX6_chooseFor_151 : decode cX6_chooseFor 151 = .ok (.iload 5, 2) := by decide +kernel
theorem dX6_chooseFor_153 : decode cX6_chooseFor 153 = .ok (.iload 6, 2) := by decide +kernel
theorem dX6_chooseFor_155 : decode cX6_chooseFor 155 = .ok (.invokevirtual 261, 3) := by decide +kernel
theorem dX6_chooseFor_158 : decode cX6_chooseFor 158 = .ok (.return_, 1) := by decide +kernel
theorem dX6_toKnow_0 : decode cX6_toKnow 0 = .ok (.iload_n 1, 1) := by decide +kernel
theorem dX6_toKnow_1 : decode cX6_toKnow 1 = .ok (.aload_n 0, 1) := by decide +kernel
theorem dX6_toKnow_2 : decode cX6_toKnow 2 = .ok (.getfield 23, 3) := by decide +kernel
theorem dX6_toKnow_5 : decode cX6_toKnow 5 = .ok (.getfield 94, 3) := by decide +kernel
theorem dX6_toKnow_8 : decode cX6_toKnow 8 = .ok (.invokestatic 227, 3) := by decide +kernel
theorem dX6_toKnow_11 : decode cX6_toKnow 11 = .ok (.ifCond .eq 17, 3) := by decide +kernel
theorem dX6_toKnow_14 : decode cX6_toKnow 14 = .ok (.iload_n 2, 1) := by decide +kernel
theorem dX6_toKnow_15 : decode cX6_toKnow 15 = .ok (.aload_n 0, 1) := by decide +kernel
theorem dX6_toKnow_16 : decode cX6_toKnow 16 = .ok (.getfield 23, 3) := by decide +kernel
theorem dX6_toKnow_19 : decode cX6_toKnow 19 = .ok (.getfield 100, 3) := by decide +kernel
theorem dX6_toKnow_22 : decode cX6_toKnow 22 = .ok (.invokestatic 227, 3) := by decide +kernel
theorem dX6_toKnow_25 : decode cX6_toKnow 25 = .ok (.ifCond .ne 6, 3) := by decide +kernel
theorem dX6_toKnow_28 : decode cX6_toKnow 28 = .ok (.ldc 127, 2) := by decide +kernel
theorem dX6_toKnow_30 : decode cX6_toKnow 30 = .ok (.ireturn, 1) := by decide +kernel
theorem dX6_toKnow_31 : decode cX6_toKnow 31 = .ok (.iconst 0, 1) := by decide +kernel
theorem dX6_toKnow_32 : decode cX6_toKnow 32 = .ok (.istore_n 3, 1) := by decide +kernel
theorem dX6_toKnow_33 : decode cX6_toKnow 33 = .ok (.iconst 0, 1) := by decide +kernel
theorem dX6_toKnow_34 : decode cX6_toKnow 34 = .ok (.istore 4, 2) := by decide +kernel
theorem dX6_toKnow_36 : decode cX6_toKnow 36 = .ok (.iload 4, 2) := by decide +kernel
theorem dX6_toKnow_38 : decode cX6_toKnow 38 = .ok (.aload_n 0, 1) := by decide +kernel
theorem dX6_toKnow_39 : decode cX6_toKnow 39 = .ok (.getfield 23, 3) := by decide +kernel
theorem dX6_toKnow_42 : decode cX6_toKnow 42 = .ok (.getfield 94, 3) := by decide +kernel
theorem dX6_toKnow_45 : decode cX6_toKnow 45 = .ok (.if_icmp .ge 40, 3) := by decide +kernel
theorem dX6_toKnow_48 : decode cX6_toKnow 48 = .ok (.iload_n 1, 1) := by decide +kernel
theorem dX6_toKnow_49 : decode cX6_toKnow 49 = .ok (.iload 4, 2) := by decide +kernel
theorem dX6_toKnow_51 : decode cX6_toKnow 51 = .ok (.invokestatic 265, 3) := by decide +kernel
theorem dX6_toKnow_54 : decode cX6_toKnow 54 = .ok (.ifCond .eq 25, 3) := by decide +kernel
theorem dX6_toKnow_57 : decode cX6_toKnow 57 = .ok (.aload_n 0, 1) := by decide +kernel
theorem dX6_toKnow_58 : decode cX6_toKnow 58 = .ok (.iload 4, 2) := by decide +kernel
theorem dX6_toKnow_60 : decode cX6_toKnow 60 = .ok (.iload_n 2, 1) := by decide +kernel
theorem dX6_toKnow_61 : decode cX6_toKnow 61 = .ok (.invokevirtual 268, 3) := by decide +kernel
theorem dX6_toKnow_64 : decode cX6_toKnow 64 = .ok (.istore 5, 2) := by decide +kernel
theorem dX6_toKnow_66 : decode cX6_toKnow 66 = .ok (.iload 5, 2) := by decide +kernel
theorem dX6_toKnow_68 : decode cX6_toKnow 68 = .ok (.iconst (-1), 1) := by decide +kernel
theorem dX6_toKnow_69 : decode cX6_toKnow 69 = .ok (.if_icmp .ne 5, 3) := by decide +kernel
theorem dX6_toKnow_72 : decode cX6_toKnow 72 = .ok (.iconst (-1), 1) := by decide +kernel
theorem dX6_toKnow_73 : decode cX6_toKnow 73 = .ok (.ireturn, 1) := by decide +kernel
theorem dX6_toKnow_74 : decode cX6_toKnow 74 = .ok (.iload_n 3, 1) := by decide +kernel
theorem dX6_toKnow_75 : decode cX6_toKnow 75 = .ok (.iload 5, 2) := by decide +kernel
theorem dX6_toKnow_77 : decode cX6_toKnow 77 = .ok (.iadd, 1) := by decide +kernel
theorem dX6_toKnow_78 : decode cX6_toKnow 78 = .ok (.istore_n 3, 1) := by decide +kernel
theorem dX6_toKnow_79 : decode cX6_toKnow 79 = .ok (.iinc 4 1, 3) := by decide +kernel
theorem dX6_toKnow_82 : decode cX6_toKnow 82 = .ok (.goto (-46), 3) := by decide +kernel
theorem dX6_toKnow_85 : decode cX6_toKnow 85 = .ok (.iload_n 3, 1) := by decide +kernel
theorem dX6_toKnow_86 : decode cX6_toKnow 86 = .ok (.ireturn, 1) := by decide +kernel
theorem dX6_fewestToKnow_0 : decode cX6_fewestToKnow 0 = .ok (.iload_n 2, 1) := by decide +kernel
theorem dX6_fewestToKnow_1 : decode cX6_fewestToKnow 1 = .ok (.aload_n 0, 1) := by decide +kernel
theorem dX6_fewestToKnow_2 : decode cX6_fewestToKnow 2 = .ok (.getfield 31, 3) := by decide +kernel
theorem dX6_fewestToKnow_5 : decode cX6_fewestToKnow 5 = .ok (.iload_n 1, 1) := by decide +kernel
theorem dX6_fewestToKnow_6 : decode cX6_fewestToKnow 6 = .ok (.invokevirtual 271, 3) := by decide +kernel
theorem dX6_fewestToKnow_9 : decode cX6_fewestToKnow 9 = .ok (.iconst (-1), 1) := by decide +kernel
theorem dX6_fewestToKnow_10 : decode cX6_fewestToKnow 10 = .ok (.ixor, 1) := by decide +kernel
theorem dX6_fewestToKnow_11 : decode cX6_fewestToKnow 11 = .ok (.iand, 1) := by decide +kernel
theorem dX6_fewestToKnow_12 : decode cX6_fewestToKnow 12 = .ok (.istore_n 3, 1) := by decide +kernel
theorem dX6_fewestToKnow_13 : decode cX6_fewestToKnow 13 = .ok (.iload_n 3, 1) := by decide +kernel
theorem dX6_fewestToKnow_14 : decode cX6_fewestToKnow 14 = .ok (.invokestatic 256, 3) := by decide +kernel
theorem dX6_fewestToKnow_17 : decode cX6_fewestToKnow 17 = .ok (.istore 4, 2) := by decide +kernel
theorem dX6_fewestToKnow_19 : decode cX6_fewestToKnow 19 = .ok (.iload 4, 2) := by decide +kernel
theorem dX6_fewestToKnow_21 : decode cX6_fewestToKnow 21 = .ok (.ifCond .ne 5, 3) := by decide +kernel
theorem dX6_fewestToKnow_24 : decode cX6_fewestToKnow 24 = .ok (.iconst 0, 1) := by decide +kernel
theorem dX6_fewestToKnow_25 : decode cX6_fewestToKnow 25 = .ok (.ireturn, 1) := by decide +kernel
theorem dX6_fewestToKnow_26 : decode cX6_fewestToKnow 26 = .ok (.aload_n 0, 1) := by decide +kernel
theorem dX6_fewestToKnow_27 : decode cX6_fewestToKnow 27 = .ok (.getfield 31, 3) := by decide +kernel
theorem dX6_fewestToKnow_30 : decode cX6_fewestToKnow 30 = .ok (.iload_n 1, 1) := by decide +kernel
theorem dX6_fewestToKnow_31 : decode cX6_fewestToKnow 31 = .ok (.invokevirtual 274, 3) := by decide +kernel
theorem dX6_fewestToKnow_34 : decode cX6_fewestToKnow 34 = .ok (.ifCond .le 7, 3) := by decide +kernel
theorem dX6_fewestToKnow_37 : decode cX6_fewestToKnow 37 = .ok (.iconst 1, 1) := by decide +kernel
theorem dX6_fewestToKnow_38 : decode cX6_fewestToKnow 38 = .ok (.goto 4, 3) := by decide +kernel
theorem dX6_fewestToKnow_41 : decode cX6_fewestToKnow 41 = .ok (.iconst 0, 1) := by decide +kernel
theorem dX6_fewestToKnow_42 : decode cX6_fewestToKnow 42 = .ok (.istore 5, 2) := by decide +kernel
theorem dX6_fewestToKnow_44 : decode cX6_fewestToKnow 44 = .ok (.iload 5, 2) := by decide +kernel
theorem dX6_fewestToKnow_46 : decode cX6_fewestToKnow 46 = .ok (.ifCond .eq 16, 3) := by decide +kernel
theorem dX6_fewestToKnow_49 : decode cX6_fewestToKnow 49 = .ok (.aload_n 0, 1) := by decide +kernel
theorem dX6_fewestToKnow_50 : decode cX6_fewestToKnow 50 = .ok (.getfield 23, 3) := by decide +kernel
theorem dX6_fewestToKnow_53 : decode cX6_fewestToKnow 53 = .ok (.iconst 1, 1) := by decide +kernel
theorem dX6_fewestToKnow_54 : decode cX6_fewestToKnow 54 = .ok (.invokevirtual 277, 3) := by decide +kernel
theorem dX6_fewestToKnow_57 : decode cX6_fewestToKnow 57 = .ok (.ifCond .eq 5, 3) := by decide +kernel
theorem dX6_fewestToKnow_60 : decode cX6_fewestToKnow 60 = .ok (.iconst 1, 1) := by decide +kernel
theorem dX6_fewestToKnow_61 : decode cX6_fewestToKnow 61 = .ok (.ireturn, 1) := by decide +kernel
theorem dX6_fewestToKnow_62 : decode cX6_fewestToKnow 62 = .ok (.aload_n 0, 1) := by decide +kernel
theorem dX6_fewestToKnow_63 : decode cX6_fewestToKnow 63 = .ok (.iload_n 1, 1) := by decide +kernel
theorem dX6_fewestToKnow_64 : decode cX6_fewestToKnow 64 = .ok (.iload_n 3, 1) := by decide +kernel
theorem dX6_fewestToKnow_65 : decode cX6_fewestToKnow 65 = .ok (.invokevirtual 280, 3) := by decide +kernel
theorem dX6_fewestToKnow_68 : decode cX6_fewestToKnow 68 = .ok (.ifCond .eq 6, 3) := by decide +kernel
theorem dX6_fewestToKnow_71 : decode cX6_fewestToKnow 71 = .ok (.iload 4, 2) := by decide +kernel
theorem dX6_fewestToKnow_73 : decode cX6_fewestToKnow 73 = .ok (.ireturn, 1) := by decide +kernel
theorem dX6_fewestToKnow_74 : decode cX6_fewestToKnow 74 = .ok (.aload_n 0, 1) := by decide +kernel
theorem dX6_fewestToKnow_75 : decode cX6_fewestToKnow 75 = .ok (.getfield 23, 3) := by decide +kernel
theorem dX6_fewestToKnow_78 : decode cX6_fewestToKnow 78 = .ok (.iconst 4, 1) := by decide +kernel
theorem dX6_fewestToKnow_79 : decode cX6_fewestToKnow 79 = .ok (.invokevirtual 277, 3) := by decide +kernel
theorem dX6_fewestToKnow_82 : decode cX6_fewestToKnow 82 = .ok (.istore 6, 2) := by decide +kernel
theorem dX6_fewestToKnow_84 : decode cX6_fewestToKnow 84 = .ok (.iload 6, 2) := by decide +kernel
theorem dX6_fewestToKnow_86 : decode cX6_fewestToKnow 86 = .ok (.aload_n 0, 1) := by decide +kernel
theorem dX6_fewestToKnow_87 : decode cX6_fewestToKnow 87 = .ok (.getfield 31, 3) := by decide +kernel
theorem dX6_fewestToKnow_90 : decode cX6_fewestToKnow 90 = .ok (.iload_n 1, 1) := by decide +kernel
theorem dX6_fewestToKnow_91 : decode cX6_fewestToKnow 91 = .ok (.invokevirtual 271, 3) := by decide +kernel
theorem dX6_fewestToKnow_94 : decode cX6_fewestToKnow 94 = .ok (.iand, 1) := by decide +kernel
theorem dX6_fewestToKnow_95 : decode cX6_fewestToKnow 95 = .ok (.ifCond .eq 6, 3) := by decide +kernel
theorem dX6_fewestToKnow_98 : decode cX6_fewestToKnow 98 = .ok (.iload 4, 2) := by decide +kernel
theorem dX6_fewestToKnow_100 : decode cX6_fewestToKnow 100 = .ok (.ireturn, 1) := by decide +kernel
theorem dX6_fewestToKnow_101 : decode cX6_fewestToKnow 101 = .ok (.iload 5, 2) := by decide +kernel
theorem dX6_fewestToKnow_103 : decode cX6_fewestToKnow 103 = .ok (.ifCond .eq 8, 3) := by decide +kernel
theorem dX6_fewestToKnow_106 : decode cX6_fewestToKnow 106 = .ok (.iload 6, 2) := by decide +kernel
theorem dX6_fewestToKnow_108 : decode cX6_fewestToKnow 108 = .ok (.ifCond .ne 5, 3) := by decide +kernel
theorem dX6_fewestToKnow_111 : decode cX6_fewestToKnow 111 = .ok (.iconst (-1), 1) := by decide +kernel
theorem dX6_fewestToKnow_112 : decode cX6_fewestToKnow 112 = .ok (.ireturn, 1) := by decide +kernel
theorem dX6_fewestToKnow_113 : decode cX6_fewestToKnow 113 = .ok (.iload 6, 2) := by decide +kernel
theorem dX6_fewestToKnow_115 : decode cX6_fewestToKnow 115 = .ok (.iload_n 2, 1) := by decide +kernel
theorem dX6_fewestToKnow_116 : decode cX6_fewestToKnow 116 = .ok (.iand, 1) := by decide +kernel
theorem dX6_fewestToKnow_117 : decode cX6_fewestToKnow 117 = .ok (.ifCond .eq 8, 3) := by decide +kernel
theorem dX6_fewestToKnow_120 : decode cX6_fewestToKnow 120 = .ok (.iload 4, 2) := by decide +kernel
theorem dX6_fewestToKnow_122 : decode cX6_fewestToKnow 122 = .ok (.goto 7, 3) := by decide +kernel
theorem dX6_fewestToKnow_125 : decode cX6_fewestToKnow 125 = .ok (.iload 4, 2) := by decide +kernel
theorem dX6_fewestToKnow_127 : decode cX6_fewestToKnow 127 = .ok (.iconst 1, 1) := by decide +kernel
theorem dX6_fewestToKnow_128 : decode cX6_fewestToKnow 128 = .ok (.iadd, 1) := by decide +kernel
theorem dX6_fewestToKnow_129 : decode cX6_fewestToKnow 129 = .ok (.ireturn, 1) := by decide +kernel
theorem dX6_pagesAllow_0 : decode cX6_pagesAllow 0 = .ok (.iload_n 2, 1) := by decide +kernel
theorem dX6_pagesAllow_1 : decode cX6_pagesAllow 1 = .ok (.aload_n 0, 1) := by decide +kernel
theorem dX6_pagesAllow_2 : decode cX6_pagesAllow 2 = .ok (.getfield 23, 3) := by decide +kernel
theorem dX6_pagesAllow_5 : decode cX6_pagesAllow 5 = .ok (.iconst 3, 1) := by decide +kernel
theorem dX6_pagesAllow_6 : decode cX6_pagesAllow 6 = .ok (.invokevirtual 277, 3) := by decide +kernel
theorem dX6_pagesAllow_9 : decode cX6_pagesAllow 9 = .ok (.iand, 1) := by decide +kernel
theorem dX6_pagesAllow_10 : decode cX6_pagesAllow 10 = .ok (.invokestatic 256, 3) := by decide +kernel
theorem dX6_pagesAllow_13 : decode cX6_pagesAllow 13 = .ok (.istore_n 3, 1) := by decide +kernel
theorem dX6_pagesAllow_14 : decode cX6_pagesAllow 14 = .ok (.iload_n 3, 1) := by decide +kernel
theorem dX6_pagesAllow_15 : decode cX6_pagesAllow 15 = .ok (.aload_n 0, 1) := by decide +kernel
theorem dX6_pagesAllow_16 : decode cX6_pagesAllow 16 = .ok (.getfield 31, 3) := by decide +kernel
theorem dX6_pagesAllow_19 : decode cX6_pagesAllow 19 = .ok (.iload_n 1, 1) := by decide +kernel
theorem dX6_pagesAllow_20 : decode cX6_pagesAllow 20 = .ok (.invokevirtual 274, 3) := by decide +kernel
theorem dX6_pagesAllow_23 : decode cX6_pagesAllow 23 = .ok (.if_icmp .gt 22, 3) := by decide +kernel
theorem dX6_pagesAllow_26 : decode cX6_pagesAllow 26 = .ok (.iload_n 2, 1) := by decide +kernel
theorem dX6_pagesAllow_27 : decode cX6_pagesAllow 27 = .ok (.invokestatic 256, 3) := by decide +kernel
theorem dX6_pagesAllow_30 : decode cX6_pagesAllow 30 = .ok (.aload_n 0, 1) := by decide +kernel
theorem dX6_pagesAllow_31 : decode cX6_pagesAllow 31 = .ok (.getfield 31, 3) := by decide +kernel
theorem dX6_pagesAllow_34 : decode cX6_pagesAllow 34 = .ok (.iload_n 1, 1) := by decide +kernel
theorem dX6_pagesAllow_35 : decode cX6_pagesAllow 35 = .ok (.invokevirtual 283, 3) := by decide +kernel
theorem dX6_pagesAllow_38 : decode cX6_pagesAllow 38 = .ok (.if_icmp .gt 7, 3) := by decide +kernel
theorem dX6_pagesAllow_41 : decode cX6_pagesAllow 41 = .ok (.iconst 1, 1) := by decide +kernel
theorem dX6_pagesAllow_42 : decode cX6_pagesAllow 42 = .ok (.goto 4, 3) := by decide +kernel
theorem dX6_pagesAllow_45 : decode cX6_pagesAllow 45 = .ok (.iconst 0, 1) := by decide +kernel
theorem dX6_pagesAllow_46 : decode cX6_pagesAllow 46 = .ok (.ireturn, 1) := by decide +kernel
theorem dX6_life_0 : decode cX6_life 0 = .ok (.iload_n 1, 1) := by decide +kernel
theorem dX6_life_1 : decode cX6_life 1 = .ok (.ifCond .lt 31, 3) := by decide +kernel
theorem dX6_life_4 : decode cX6_life 4 = .ok (.iload_n 1, 1) := by decide +kernel
theorem dX6_life_5 : decode cX6_life 5 = .ok (.bipush 9, 2) := by decide +kernel
theorem dX6_life_7 : decode cX6_life 7 = .ok (.if_icmp .gt 25, 3) := by decide +kernel
theorem dX6_life_10 : decode cX6_life 10 = .ok (.iload_n 2, 1) := by decide +kernel
theorem dX6_life_11 : decode cX6_life 11 = .ok (.iconst 1, 1) := by decide +kernel
theorem dX6_life_12 : decode cX6_life 12 = .ok (.if_icmp .lt 20, 3) := by decide +kernel
theorem dX6_life_15 : decode cX6_life 15 = .ok (.iload_n 2, 1) := by decide +kernel
theorem dX6_life_16 : decode cX6_life 16 = .ok (.bipush 99, 2) := by decide +kernel
theorem dX6_life_18 : decode cX6_life 18 = .ok (.if_icmp .gt 14, 3) := by decide +kernel
theorem dX6_life_21 : decode cX6_life 21 = .ok (.iload_n 3, 1) := by decide +kernel
theorem dX6_life_22 : decode cX6_life 22 = .ok (.ifCond .lt 10, 3) := by decide +kernel
theorem dX6_life_25 : decode cX6_life 25 = .ok (.iload_n 3, 1) := by decide +kernel
theorem dX6_life_26 : decode cX6_life 26 = .ok (.sipush 200, 3) := by decide +kernel
theorem dX6_life_29 : decode cX6_life 29 = .ok (.if_icmp .le 6, 3) := by decide +kernel
theorem dX6_life_32 : decode cX6_life 32 = .ok (.ldc 70, 2) := by decide +kernel
theorem dX6_life_34 : decode cX6_life 34 = .ok (.ireturn, 1) := by decide +kernel
theorem dX6_life_35 : decode cX6_life 35 = .ok (.aload_n 0, 1) := by decide +kernel
theorem dX6_life_36 : decode cX6_life 36 = .ok (.getfield 67, 3) := by decide +kernel
theorem dX6_life_39 : decode cX6_life 39 = .ok (.iconst 0, 1) := by decide +kernel
theorem dX6_life_40 : decode cX6_life 40 = .ok (.invokestatic 286, 3) := by decide +kernel
theorem dX6_life_43 : decode cX6_life 43 = .ok (.aload_n 0, 1) := by decide +kernel
theorem dX6_life_44 : decode cX6_life 44 = .ok (.getfield 67, 3) := by decide +kernel
theorem dX6_life_47 : decode cX6_life 47 = .ok (.iload_n 1, 1) := by decide +kernel
theorem dX6_life_48 : decode cX6_life 48 = .ok (.ldc_w 292, 3) := by decide +kernel
theorem dX6_life_51 : decode cX6_life 51 = .ok (.iastore, 1) := by decide +kernel
theorem dX6_life_52 : decode cX6_life 52 = .ok (.iconst 0, 1) := by decide +kernel
theorem dX6_life_53 : decode cX6_life 53 = .ok (.istore 4, 2) := by decide +kernel
theorem dX6_life_55 : decode cX6_life 55 = .ok (.iload 4, 2) := by decide +kernel
theorem dX6_life_57 : decode cX6_life 57 = .ok (.iload_n 3, 1) := by decide +kernel
theorem dX6_life_58 : decode cX6_life 58 = .ok (.if_icmp .ge 61, 3) := by decide +kernel
theorem dX6_life_61 : decode cX6_life 61 = .ok (.bipush 8, 2) := by decide +kernel
theorem dX6_life_63 : decode cX6_life 63 = .ok (.istore 5, 2) := by decide +kernel
theorem dX6_life_65 : decode cX6_life 65 = .ok (.iload 5, 2) := by decide +kernel
theorem dX6_life_67 : decode cX6_life 67 = .ok (.ifCond .lt 46, 3) := by decide +kernel
theorem dX6_life_70 : decode cX6_life 70 = .ok (.aload_n 0, 1) := by decide +kernel
theorem dX6_life_71 : decode cX6_life 71 = .ok (.getfield 67, 3) := by decide +kernel
theorem dX6_life_74 : decode cX6_life 74 = .ok (.iload 5, 2) := by decide +kernel
theorem dX6_life_76 : decode cX6_life 76 = .ok (.iaload, 1) := by decide +kernel
theorem dX6_life_77 : decode cX6_life 77 = .ok (.iload_n 2, 1) := by decide +kernel
theorem dX6_life_78 : decode cX6_life 78 = .ok (.idiv, 1) := by decide +kernel
theorem dX6_life_79 : decode cX6_life 79 = .ok (.istore 6, 2) := by decide +kernel
theorem dX6_life_81 : decode cX6_life 81 = .ok (.aload_n 0, 1) := by decide +kernel
theorem dX6_life_82 : decode cX6_life 82 = .ok (.getfield 67, 3) := by decide +kernel
theorem dX6_life_85 : decode cX6_life 85 = .ok (.iload 5, 2) := by decide +kernel
theorem dX6_life_87 : decode cX6_life 87 = .ok (.iconst 1, 1) := by decide +kernel
theorem dX6_life_88 : decode cX6_life 88 = .ok (.iadd, 1) := by decide +kernel
theorem dX6_life_89 : decode cX6_life 89 = .ok (.dup2, 1) := by decide +kernel
theorem dX6_life_90 : decode cX6_life 90 = .ok (.iaload, 1) := by decide +kernel
theorem dX6_life_91 : decode cX6_life 91 = .ok (.iload 6, 2) := by decide +kernel
theorem dX6_life_93 : decode cX6_life 93 = .ok (.iadd, 1) := by decide +kernel
theorem dX6_life_94 : decode cX6_life 94 = .ok (.iastore, 1) := by decide +kernel
theorem dX6_life_95 : decode cX6_life 95 = .ok (.aload_n 0, 1) := by decide +kernel
theorem dX6_life_96 : decode cX6_life 96 = .ok (.getfield 67, 3) := by decide +kernel
theorem dX6_life_99 : decode cX6_life 99 = .ok (.iload 5, 2) := by decide +kernel
theorem dX6_life_101 : decode cX6_life 101 = .ok (.dup2, 1) := by decide +kernel
theorem dX6_life_102 : decode cX6_life 102 = .ok (.iaload, 1) := by decide +kernel
theorem dX6_life_103 : decode cX6_life 103 = .ok (.iload 6, 2) := by decide +kernel
theorem dX6_life_105 : decode cX6_life 105 = .ok (.isub, 1) := by decide +kernel
theorem dX6_life_106 : decode cX6_life 106 = .ok (.iastore, 1) := by decide +kernel
theorem dX6_life_107 : decode cX6_life 107 = .ok (.iinc 5 (-1), 3) := by decide +kernel
theorem dX6_life_110 : decode cX6_life 110 = .ok (.goto (-45), 3) := by decide +kernel
theorem dX6_life_113 : decode cX6_life 113 = .ok (.iinc 4 1, 3) := by decide +kernel
theorem dX6_life_116 : decode cX6_life 116 = .ok (.goto (-61), 3) := by decide +kernel
theorem dX6_life_119 : decode cX6_life 119 = .ok (.iconst 0, 1) := by decide +kernel
theorem dX6_life_120 : decode cX6_life 120 = .ok (.istore 4, 2) := by decide +kernel
theorem dX6_life_122 : decode cX6_life 122 = .ok (.iconst 0, 1) := by decide +kernel
theorem dX6_life_123 : decode cX6_life 123 = .ok (.istore 5, 2) := by decide +kernel
theorem dX6_life_125 : decode cX6_life 125 = .ok (.iload 5, 2) := by decide +kernel
theorem dX6_life_127 : decode cX6_life 127 = .ok (.bipush 9, 2) := by decide +kernel
theorem dX6_life_129 : decode cX6_life 129 = .ok (.if_icmp .ge 21, 3) := by decide +kernel
theorem dX6_life_132 : decode cX6_life 132 = .ok (.iload 4, 2) := by decide +kernel
theorem dX6_life_134 : decode cX6_life 134 = .ok (.aload_n 0, 1) := by decide +kernel
theorem dX6_life_135 : decode cX6_life 135 = .ok (.getfield 67, 3) := by decide +kernel
theorem dX6_life_138 : decode cX6_life 138 = .ok (.iload 5, 2) := by decide +kernel
theorem dX6_life_140 : decode cX6_life 140 = .ok (.iaload, 1) := by decide +kernel
theorem dX6_life_141 : decode cX6_life 141 = .ok (.iadd, 1) := by decide +kernel
theorem dX6_life_142 : decode cX6_life 142 = .ok (.istore 4, 2) := by decide +kernel
theorem dX6_life_144 : decode cX6_life 144 = .ok (.iinc 5 1, 3) := by decide +kernel
theorem dX6_life_147 : decode cX6_life 147 = .ok (.goto (-22), 3) := by decide +kernel
theorem dX6_life_150 : decode cX6_life 150 = .ok (.iload 4, 2) := by decide +kernel
theorem dX6_life_152 : decode cX6_life 152 = .ok (.ireturn, 1) := by decide +kernel
theorem dX6_right_0 : decode cX6_right 0 = .ok (.iload_n 1, 1) := by decide +kernel
theorem dX6_right_1 : decode cX6_right 1 = .ok (.iconst 1, 1) := by decide +kernel
theorem dX6_right_2 : decode cX6_right 2 = .ok (.if_icmp .lt 9, 3) := by decide +kernel
theorem dX6_right_5 : decode cX6_right 5 = .ok (.iload_n 1, 1) := by decide +kernel
theorem dX6_right_6 : decode cX6_right 6 = .ok (.bipush 40, 2) := by decide +kernel
theorem dX6_right_8 : decode cX6_right 8 = .ok (.if_icmp .le 6, 3) := by decide +kernel
theorem dX6_right_11 : decode cX6_right 11 = .ok (.ldc 70, 2) := by decide +kernel
theorem dX6_right_13 : decode cX6_right 13 = .ok (.ireturn, 1) := by decide +kernel
theorem dX6_right_14 : decode cX6_right 14 = .ok (.aload_n 0, 1) := by decide +kernel
theorem dX6_right_15 : decode cX6_right 15 = .ok (.getfield 67, 3) := by decide +kernel
theorem dX6_right_18 : decode cX6_right 18 = .ok (.iconst 0, 1) := by decide +kernel
theorem dX6_right_19 : decode cX6_right 19 = .ok (.invokestatic 286, 3) := by decide +kernel
theorem dX6_right_22 : decode cX6_right 22 = .ok (.aload_n 0, 1) := by decide +kernel
theorem dX6_right_23 : decode cX6_right 23 = .ok (.getfield 67, 3) := by decide +kernel
theorem dX6_right_26 : decode cX6_right 26 = .ok (.iconst 0, 1) := by decide +kernel
theorem dX6_right_27 : decode cX6_right 27 = .ok (.ldc_w 293, 3) := by decide +kernel
theorem dX6_right_30 : decode cX6_right 30 = .ok (.iastore, 1) := by decide +kernel
theorem dX6_right_31 : decode cX6_right 31 = .ok (.iconst 0, 1) := by decide +kernel
theorem dX6_right_32 : decode cX6_right 32 = .ok (.istore_n 2, 1) := by decide +kernel
theorem dX6_right_33 : decode cX6_right 33 = .ok (.iload_n 2, 1) := by decide +kernel
theorem dX6_right_34 : decode cX6_right 34 = .ok (.iload_n 1, 1) := by decide +kernel
theorem dX6_right_35 : decode cX6_right 35 = .ok (.if_icmp .ge 68, 3) := by decide +kernel
theorem dX6_right_38 : decode cX6_right 38 = .ok (.iload_n 2, 1) := by decide +kernel
theorem dX6_right_39 : decode cX6_right 39 = .ok (.istore_n 3, 1) := by decide +kernel
theorem dX6_right_40 : decode cX6_right 40 = .ok (.iload_n 3, 1) := by decide +kernel
theorem dX6_right_41 : decode cX6_right 41 = .ok (.ifCond .lt 56, 3) := by decide +kernel
theorem dX6_right_44 : decode cX6_right 44 = .ok (.aload_n 0, 1) := by decide +kernel
theorem dX6_right_45 : decode cX6_right 45 = .ok (.getfield 67, 3) := by decide +kernel
theorem dX6_right_48 : decode cX6_right 48 = .ok (.iload_n 3, 1) := by decide +kernel
theorem dX6_right_49 : decode cX6_right 49 = .ok (.iaload, 1) := by decide +kernel
theorem dX6_right_50 : decode cX6_right 50 = .ok (.aload_n 0, 1) := by decide +kernel
theorem dX6_right_51 : decode cX6_right 51 = .ok (.getfield 23, 3) := by decide +kernel
theorem dX6_right_54 : decode cX6_right 54 = .ok (.getfield 116, 3) := by decide +kernel
theorem dX6_right_57 : decode cX6_right 57 = .ok (.imul, 1) := by decide +kernel
theorem dX6_right_58 : decode cX6_right 58 = .ok (.bipush 100, 2) := by decide +kernel
theorem dX6_right_60 : decode cX6_right 60 = .ok (.idiv, 1) := by decide +kernel
theorem dX6_right_61 : decode cX6_right 61 = .ok (.istore 4, 2) := by decide +kernel
theorem dX6_right_63 : decode cX6_right 63 = .ok (.aload_n 0, 1) := by decide +kernel
theorem dX6_right_64 : decode cX6_right 64 = .ok (.getfield 67, 3) := by decide +kernel
theorem dX6_right_67 : decode cX6_right 67 = .ok (.iload_n 3, 1) := by decide +kernel
theorem dX6_right_68 : decode cX6_right 68 = .ok (.iconst 1, 1) := by decide +kernel
theorem dX6_right_69 : decode cX6_right 69 = .ok (.iadd, 1) := by decide +kernel
theorem dX6_right_70 : decode cX6_right 70 = .ok (.dup2, 1) := by decide +kernel
theorem dX6_right_71 : decode cX6_right 71 = .ok (.iaload, 1) := by decide +kernel
theorem dX6_right_72 : decode cX6_right 72 = .ok (.aload_n 0, 1) := by decide +kernel
theorem dX6_right_73 : decode cX6_right 73 = .ok (.getfield 67, 3) := by decide +kernel
theorem dX6_right_76 : decode cX6_right 76 = .ok (.iload_n 3, 1) := by decide +kernel
theorem dX6_right_77 : decode cX6_right 77 = .ok (.iaload, 1) := by decide +kernel
theorem dX6_right_78 : decode cX6_right 78 = .ok (.iload 4, 2) := by decide +kernel
theorem dX6_right_80 : decode cX6_right 80 = .ok (.isub, 1) := by decide +kernel
theorem dX6_right_81 : decode cX6_right 81 = .ok (.iadd, 1) := by decide +kernel
theorem dX6_right_82 : decode cX6_right 82 = .ok (.iastore, 1) := by decide +kernel
theorem dX6_right_83 : decode cX6_right 83 = .ok (.aload_n 0, 1) := by decide +kernel
theorem dX6_right_84 : decode cX6_right 84 = .ok (.getfield 67, 3) := by decide +kernel
theorem dX6_right_87 : decode cX6_right 87 = .ok (.iload_n 3, 1) := by decide +kernel
theorem dX6_right_88 : decode cX6_right 88 = .ok (.iload 4, 2) := by decide +kernel
theorem dX6_right_90 : decode cX6_right 90 = .ok (.iastore, 1) := by decide +kernel
theorem dX6_right_91 : decode cX6_right 91 = .ok (.iinc 3 (-1), 3) := by decide +kernel
theorem dX6_right_94 : decode cX6_right 94 = .ok (.goto (-54), 3) := by decide +kernel
theorem dX6_right_97 : decode cX6_right 97 = .ok (.iinc 2 1, 3) := by decide +kernel
theorem dX6_right_100 : decode cX6_right 100 = .ok (.goto (-67), 3) := by decide +kernel
theorem dX6_right_103 : decode cX6_right 103 = .ok (.iconst 0, 1) := by decide +kernel
theorem dX6_right_104 : decode cX6_right 104 = .ok (.istore_n 2, 1) := by decide +kernel
theorem dX6_right_105 : decode cX6_right 105 = .ok (.iload_n 1, 1) := by decide +kernel
theorem dX6_right_106 : decode cX6_right 106 = .ok (.iconst 2, 1) := by decide +kernel
theorem dX6_right_107 : decode cX6_right 107 = .ok (.idiv, 1) := by decide +kernel
theorem dX6_right_108 : decode cX6_right 108 = .ok (.iconst 1, 1) := by decide +kernel
theorem dX6_right_109 : decode cX6_right 109 = .ok (.iadd, 1) := by decide +kernel
theorem dX6_right_110 : decode cX6_right 110 = .ok (.istore_n 3, 1) := by decide +kernel
theorem dX6_right_111 : decode cX6_right 111 = .ok (.iload_n 3, 1) := by decide +kernel
theorem dX6_right_112 : decode cX6_right 112 = .ok (.iload_n 1, 1) := by decide +kernel
theorem dX6_right_113 : decode cX6_right 113 = .ok (.if_icmp .gt 18, 3) := by decide +kernel
theorem dX6_right_116 : decode cX6_right 116 = .ok (.iload_n 2, 1) := by decide +kernel
theorem dX6_right_117 : decode cX6_right 117 = .ok (.aload_n 0, 1) := by decide +kernel
theorem dX6_right_118 : decode cX6_right 118 = .ok (.getfield 67, 3) := by decide +kernel
theorem dX6_right_121 : decode cX6_right 121 = .ok (.iload_n 3, 1) := by decide +kernel
theorem dX6_right_122 : decode cX6_right 122 = .ok (.iaload, 1) := by decide +kernel
theorem dX6_right_123 : decode cX6_right 123 = .ok (.iadd, 1) := by decide +kernel
theorem dX6_right_124 : decode cX6_right 124 = .ok (.istore_n 2, 1) := by decide +kernel
theorem dX6_right_125 : decode cX6_right 125 = .ok (.iinc 3 1, 3) := by decide +kernel
theorem dX6_right_128 : decode cX6_right 128 = .ok (.goto (-17), 3) := by decide +kernel
theorem dX6_right_131 : decode cX6_right 131 = .ok (.iload_n 2, 1) := by decide +kernel
theorem dX6_right_132 : decode cX6_right 132 = .ok (.ireturn, 1) := by decide +kernel
theorem dX6_claim_0 : decode cX6_claim 0 = .ok (.aload_n 0, 1) := by decide +kernel
theorem dX6_claim_1 : decode cX6_claim 1 = .ok (.getfield 23, 3) := by decide +kernel
theorem dX6_claim_4 : decode cX6_claim 4 = .ok (.iload_n 1, 1) := by decide +kernel
theorem dX6_claim_5 : decode cX6_claim 5 = .ok (.invokevirtual 123, 3) := by decide +kernel
theorem dX6_claim_8 : decode cX6_claim 8 = .ok (.ifCond .ne 6, 3) := by decide +kernel
theorem dX6_claim_11 : decode cX6_claim 11 = .ok (.ldc 127, 2) := by decide +kernel
theorem dX6_claim_13 : decode cX6_claim 13 = .ok (.ireturn, 1) := by decide +kernel
theorem dX6_claim_14 : decode cX6_claim 14 = .ok (.iload_n 2, 1) := by decide +kernel
theorem dX6_claim_15 : decode cX6_claim 15 = .ok (.ifCond .lt 20, 3) := by decide +kernel
theorem dX6_claim_18 : decode cX6_claim 18 = .ok (.iload_n 2, 1) := by decide +kernel
theorem dX6_claim_19 : decode cX6_claim 19 = .ok (.bipush 99, 2) := by decide +kernel
theorem dX6_claim_21 : decode cX6_claim 21 = .ok (.if_icmp .gt 14, 3) := by decide +kernel
theorem dX6_claim_24 : decode cX6_claim 24 = .ok (.iload_n 3, 1) := by decide +kernel
theorem dX6_claim_25 : decode cX6_claim 25 = .ok (.ifCond .lt 10, 3) := by decide +kernel
theorem dX6_claim_28 : decode cX6_claim 28 = .ok (.iload_n 3, 1) := by decide +kernel
theorem dX6_claim_29 : decode cX6_claim 29 = .ok (.sipush 9999, 3) := by decide +kernel
theorem dX6_claim_32 : decode cX6_claim 32 = .ok (.if_icmp .le 6, 3) := by decide +kernel
theorem dX6_claim_35 : decode cX6_claim 35 = .ok (.ldc 70, 2) := by decide +kernel
theorem dX6_claim_37 : decode cX6_claim 37 = .ok (.ireturn, 1) := by decide +kernel
theorem dX6_claim_38 : decode cX6_claim 38 = .ok (.aload_n 0, 1) := by decide +kernel
theorem dX6_claim_39 : decode cX6_claim 39 = .ok (.getfield 31, 3) := by decide +kernel
theorem dX6_claim_42 : decode cX6_claim 42 = .ok (.iload_n 1, 1) := by decide +kernel
theorem dX6_claim_43 : decode cX6_claim 43 = .ok (.iload_n 2, 1) := by decide +kernel
theorem dX6_claim_44 : decode cX6_claim 44 = .ok (.iload_n 3, 1) := by decide +kernel
theorem dX6_claim_45 : decode cX6_claim 45 = .ok (.invokevirtual 294, 3) := by decide +kernel
theorem dX6_claim_48 : decode cX6_claim 48 = .ok (.ifCond .eq 7, 3) := by decide +kernel
theorem dX6_claim_51 : decode cX6_claim 51 = .ok (.iconst 0, 1) := by decide +kernel
theorem dX6_claim_52 : decode cX6_claim 52 = .ok (.goto 4, 3) := by decide +kernel
theorem dX6_claim_55 : decode cX6_claim 55 = .ok (.iconst 1, 1) := by decide +kernel
theorem dX6_claim_56 : decode cX6_claim 56 = .ok (.ireturn, 1) := by decide +kernel
theorem dX6_whence_0 : decode cX6_whence 0 = .ok (.aload_n 0, 1) := by decide +kernel
theorem dX6_whence_1 : decode cX6_whence 1 = .ok (.getfield 23, 3) := by decide +kernel
theorem dX6_whence_4 : decode cX6_whence 4 = .ok (.iload_n 1, 1) := by decide +kernel
theorem dX6_whence_5 : decode cX6_whence 5 = .ok (.invokevirtual 123, 3) := by decide +kernel
theorem dX6_whence_8 : decode cX6_whence 8 = .ok (.ifCond .ne 6, 3) := by decide +kernel
theorem dX6_whence_11 : decode cX6_whence 11 = .ok (.ldc 127, 2) := by decide +kernel
theorem dX6_whence_13 : decode cX6_whence 13 = .ok (.ireturn, 1) := by decide +kernel
theorem dX6_whence_14 : decode cX6_whence 14 = .ok (.iload_n 2, 1) := by decide +kernel
theorem dX6_whence_15 : decode cX6_whence 15 = .ok (.ifCond .lt 9, 3) := by decide +kernel
theorem dX6_whence_18 : decode cX6_whence 18 = .ok (.iload_n 2, 1) := by decide +kernel
theorem dX6_whence_19 : decode cX6_whence 19 = .ok (.bipush 99, 2) := by decide +kernel
theorem dX6_whence_21 : decode cX6_whence 21 = .ok (.if_icmp .le 6, 3) := by decide +kernel
theorem dX6_whence_24 : decode cX6_whence 24 = .ok (.ldc 70, 2) := by decide +kernel
theorem dX6_whence_26 : decode cX6_whence 26 = .ok (.ireturn, 1) := by decide +kernel
theorem dX6_whence_27 : decode cX6_whence 27 = .ok (.aload_n 0, 1) := by decide +kernel
theorem dX6_whence_28 : decode cX6_whence 28 = .ok (.getfield 31, 3) := by decide +kernel
theorem dX6_whence_31 : decode cX6_whence 31 = .ok (.iload_n 1, 1) := by decide +kernel
theorem dX6_whence_32 : decode cX6_whence 32 = .ok (.iload_n 2, 1) := by decide +kernel
theorem dX6_whence_33 : decode cX6_whence 33 = .ok (.invokevirtual 298, 3) := by decide +kernel
theorem dX6_whence_36 : decode cX6_whence 36 = .ok (.ireturn, 1) := by decide +kernel
theorem dX6_span_0 : decode cX6_span 0 = .ok (.iload_n 1, 1) := by decide +kernel
theorem dX6_span_1 : decode cX6_span 1 = .ok (.iconst 1, 1) := by decide +kernel
theorem dX6_span_2 : decode cX6_span 2 = .ok (.if_icmp .lt 29, 3) := by decide +kernel
theorem dX6_span_5 : decode cX6_span 5 = .ok (.iload_n 1, 1) := by decide +kernel
theorem dX6_span_6 : decode cX6_span 6 = .ok (.bipush 100, 2) := by decide +kernel
theorem dX6_span_8 : decode cX6_span 8 = .ok (.if_icmp .gt 23, 3) := by decide +kernel
theorem dX6_span_11 : decode cX6_span 11 = .ok (.iload_n 2, 1) := by decide +kernel
theorem dX6_span_12 : decode cX6_span 12 = .ok (.iconst 1, 1) := by decide +kernel
theorem dX6_span_13 : decode cX6_span 13 = .ok (.if_icmp .lt 18, 3) := by decide +kernel
theorem dX6_span_16 : decode cX6_span 16 = .ok (.iload_n 2, 1) := by decide +kernel
theorem dX6_span_17 : decode cX6_span 17 = .ok (.bipush 20, 2) := by decide +kernel
theorem dX6_span_19 : decode cX6_span 19 = .ok (.if_icmp .gt 12, 3) := by decide +kernel
theorem dX6_span_22 : decode cX6_span 22 = .ok (.iload_n 3, 1) := by decide +kernel
theorem dX6_span_23 : decode cX6_span 23 = .ok (.ifCond .lt 8, 3) := by decide +kernel
theorem dX6_span_26 : decode cX6_span 26 = .ok (.iload_n 3, 1) := by decide +kernel
theorem dX6_span_27 : decode cX6_span 27 = .ok (.iconst 1, 1) := by decide +kernel
theorem dX6_span_28 : decode cX6_span 28 = .ok (.if_icmp .le 6, 3) := by decide +kernel
theorem dX6_span_31 : decode cX6_span 31 = .ok (.ldc 70, 2) := by decide +kernel
theorem dX6_span_33 : decode cX6_span 33 = .ok (.ireturn, 1) := by decide +kernel
theorem dX6_span_34 : decode cX6_span 34 = .ok (.aload_n 0, 1) := by decide +kernel
theorem dX6_span_35 : decode cX6_span 35 = .ok (.getfield 31, 3) := by decide +kernel
theorem dX6_span_38 : decode cX6_span 38 = .ok (.getfield 103, 3) := by decide +kernel
theorem dX6_span_41 : decode cX6_span 41 = .ok (.ifCond .ne 6, 3) := by decide +kernel
theorem dX6_span_44 : decode cX6_span 44 = .ok (.ldc 194, 2) := by decide +kernel
theorem dX6_span_46 : decode cX6_span 46 = .ok (.ireturn, 1) := by decide +kernel
theorem dX6_span_47 : decode cX6_span 47 = .ok (.bipush 16, 2) := by decide +kernel
theorem dX6_span_49 : decode cX6_span 49 = .ok (.istore 4, 2) := by decide +kernel
theorem dX6_span_51 : decode cX6_span 51 = .ok (.iconst 0, 1) := by decide +kernel
theorem dX6_span_52 : decode cX6_span 52 = .ok (.istore 5, 2) := by decide +kernel
theorem dX6_span_54 : decode cX6_span 54 = .ok (.aload_n 0, 1) := by decide +kernel
theorem dX6_span_55 : decode cX6_span 55 = .ok (.getfield 31, 3) := by decide +kernel
theorem dX6_span_58 : decode cX6_span 58 = .ok (.getfield 301, 3) := by decide +kernel
theorem dX6_span_61 : decode cX6_span 61 = .ok (.istore 6, 2) := by decide +kernel
theorem dX6_span_63 : decode cX6_span 63 = .ok (.iconst 0, 1) := by decide +kernel
theorem dX6_span_64 : decode cX6_span 64 = .ok (.istore 7, 2) := by decide +kernel
theorem dX6_span_66 : decode cX6_span 66 = .ok (.iload 7, 2) := by decide +kernel
theorem dX6_span_68 : decode cX6_span 68 = .ok (.iload_n 2, 1) := by decide +kernel
theorem dX6_span_69 : decode cX6_span 69 = .ok (.if_icmp .ge 74, 3) := by decide +kernel
theorem dX6_span_72 : decode cX6_span 72 = .ok (.aload_n 0, 1) := by decide +kernel
theorem dX6_span_73 : decode cX6_span 73 = .ok (.getfield 35, 3) := by decide +kernel
theorem dX6_span_76 : decode cX6_span 76 = .ok (.aload_n 0, 1) := by decide +kernel
theorem dX6_span_77 : decode cX6_span 77 = .ok (.getfield 31, 3) := by decide +kernel
theorem dX6_span_80 : decode cX6_span 80 = .ok (.invokevirtual 252, 3) := by decide +kernel
theorem dX6_span_83 : decode cX6_span 83 = .ok (.aload_n 0, 1) := by decide +kernel
theorem dX6_span_84 : decode cX6_span 84 = .ok (.getfield 35, 3) := by decide +kernel
theorem dX6_span_87 : decode cX6_span 87 = .ok (.iload 6, 2) := by decide +kernel
theorem dX6_span_89 : decode cX6_span 89 = .ok (.putfield 301, 3) := by decide +kernel
theorem dX6_span_92 : decode cX6_span 92 = .ok (.aload_n 0, 1) := by decide +kernel
theorem dX6_span_93 : decode cX6_span 93 = .ok (.getfield 35, 3) := by decide +kernel
theorem dX6_span_96 : decode cX6_span 96 = .ok (.iload_n 1, 1) := by decide +kernel
theorem dX6_span_97 : decode cX6_span 97 = .ok (.invokevirtual 214, 3) := by decide +kernel
theorem dX6_span_100 : decode cX6_span 100 = .ok (.aload_n 0, 1) := by decide +kernel
theorem dX6_span_101 : decode cX6_span 101 = .ok (.getfield 35, 3) := by decide +kernel
theorem dX6_span_104 : decode cX6_span 104 = .ok (.getfield 301, 3) := by decide +kernel
theorem dX6_span_107 : decode cX6_span 107 = .ok (.istore 6, 2) := by decide +kernel
theorem dX6_span_109 : decode cX6_span 109 = .ok (.aload_n 0, 1) := by decide +kernel
theorem dX6_span_110 : decode cX6_span 110 = .ok (.getfield 35, 3) := by decide +kernel
theorem dX6_span_113 : decode cX6_span 113 = .ok (.iconst 0, 1) := by decide +kernel
theorem dX6_span_114 : decode cX6_span 114 = .ok (.invokevirtual 119, 3) := by decide +kernel
theorem dX6_span_117 : decode cX6_span 117 = .ok (.istore 8, 2) := by decide +kernel
theorem dX6_span_119 : decode cX6_span 119 = .ok (.iload 4, 2) := by decide +kernel
theorem dX6_span_121 : decode cX6_span 121 = .ok (.iload 8, 2) := by decide +kernel
theorem dX6_span_123 : decode cX6_span 123 = .ok (.invokestatic 304, 3) := by decide +kernel
theorem dX6_span_126 : decode cX6_span 126 = .ok (.istore 4, 2) := by decide +kernel
theorem dX6_span_128 : decode cX6_span 128 = .ok (.iload 5, 2) := by decide +kernel
theorem dX6_span_130 : decode cX6_span 130 = .ok (.iload 8, 2) := by decide +kernel
theorem dX6_span_132 : decode cX6_span 132 = .ok (.invokestatic 309, 3) := by decide +kernel
theorem dX6_span_135 : decode cX6_span 135 = .ok (.istore 5, 2) := by decide +kernel
theorem dX6_span_137 : decode cX6_span 137 = .ok (.iinc 7 1, 3) := by decide +kernel
theorem dX6_span_140 : decode cX6_span 140 = .ok (.goto (-74), 3) := by decide +kernel
theorem dX6_span_143 : decode cX6_span 143 = .ok (.iload_n 3, 1) := by decide +kernel
theorem dX6_span_144 : decode cX6_span 144 = .ok (.ifCond .ne 8, 3) := by decide +kernel
theorem dX6_span_147 : decode cX6_span 147 = .ok (.iload 4, 2) := by decide +kernel
theorem dX6_span_149 : decode cX6_span 149 = .ok (.goto 5, 3) := by decide +kernel
theorem dX6_span_152 : decode cX6_span 152 = .ok (.iload 5, 2) := by decide +kernel
theorem dX6_span_154 : decode cX6_span 154 = .ok (.ireturn, 1) := by decide +kernel
theorem dX6_note_0 : decode cX6_note 0 = .ok (.iload_n 1, 1) := by decide +kernel
theorem dX6_note_1 : decode cX6_note 1 = .ok (.ifCond .lt 9, 3) := by decide +kernel
theorem dX6_note_4 : decode cX6_note 4 = .ok (.iload_n 1, 1) := by decide +kernel
theorem dX6_note_5 : decode cX6_note 5 = .ok (.bipush 16, 2) := by decide +kernel
theorem dX6_note_7 : decode cX6_note 7 = .ok (.if_icmp .le 6, 3) := by decide +kernel
theorem dX6_note_10 : decode cX6_note 10 = .ok (.ldc 70, 2) := by decide +kernel
theorem dX6_note_12 : decode cX6_note 12 = .ok (.ireturn, 1) := by decide +kernel
theorem dX6_note_13 : decode cX6_note 13 = .ok (.aload_n 0, 1) := by decide +kernel
theorem dX6_note_14 : decode cX6_note 14 = .ok (.getfield 64, 3) := by decide +kernel
theorem dX6_note_17 : decode cX6_note 17 = .ok (.bipush 60, 2) := by decide +kernel
theorem dX6_note_19 : decode cX6_note 19 = .ok (.if_icmp .lt 6, 3) := by decide +kernel
theorem dX6_note_22 : decode cX6_note 22 = .ok (.ldc 74, 2) := by decide +kernel
theorem dX6_note_24 : decode cX6_note 24 = .ok (.ireturn, 1) := by decide +kernel
theorem dX6_note_25 : decode cX6_note 25 = .ok (.aload_n 0, 1) := by decide +kernel
theorem dX6_note_26 : decode cX6_note 26 = .ok (.getfield 60, 3) := by decide +kernel
theorem dX6_note_29 : decode cX6_note 29 = .ok (.aload_n 0, 1) := by decide +kernel
theorem dX6_note_30 : decode cX6_note 30 = .ok (.getfield 64, 3) := by decide +kernel
theorem dX6_note_33 : decode cX6_note 33 = .ok (.iload_n 1, 1) := by decide +kernel
theorem dX6_note_34 : decode cX6_note 34 = .ok (.iastore, 1) := by decide +kernel
theorem dX6_note_35 : decode cX6_note 35 = .ok (.aload_n 0, 1) := by decide +kernel
theorem dX6_note_36 : decode cX6_note 36 = .ok (.dup, 1) := by decide +kernel
theorem dX6_note_37 : decode cX6_note 37 = .ok (.getfield 64, 3) := by decide +kernel
theorem dX6_note_40 : decode cX6_note 40 = .ok (.iconst 1, 1) := by decide +kernel
theorem dX6_note_41 : decode cX6_note 41 = .ok (.iadd, 1) := by decide +kernel
theorem dX6_note_42 : decode cX6_note 42 = .ok (.putfield 64, 3) := by decide +kernel
theorem dX6_note_45 : decode cX6_note 45 = .ok (.aload_n 0, 1) := by decide +kernel
theorem dX6_note_46 : decode cX6_note 46 = .ok (.getfield 64, 3) := by decide +kernel
theorem dX6_note_49 : decode cX6_note 49 = .ok (.ireturn, 1) := by decide +kernel
theorem dX6_tear_0 : decode cX6_tear 0 = .ok (.aload_n 0, 1) := by decide +kernel
theorem dX6_tear_1 : decode cX6_tear 1 = .ok (.getfield 64, 3) := by decide +kernel
theorem dX6_tear_4 : decode cX6_tear 4 = .ok (.istore_n 1, 1) := by decide +kernel
theorem dX6_tear_5 : decode cX6_tear 5 = .ok (.aload_n 0, 1) := by decide +kernel
theorem dX6_tear_6 : decode cX6_tear 6 = .ok (.iconst 0, 1) := by decide +kernel
theorem dX6_tear_7 : decode cX6_tear 7 = .ok (.putfield 64, 3) := by decide +kernel
theorem dX6_tear_10 : decode cX6_tear 10 = .ok (.iload_n 1, 1) := by decide +kernel
theorem dX6_tear_11 : decode cX6_tear 11 = .ok (.ireturn, 1) := by decide +kernel
theorem dX6_judge_0 : decode cX6_judge 0 = .ok (.iconst 0, 1) := by decide +kernel
theorem dX6_judge_1 : decode cX6_judge 1 = .ok (.istore_n 1, 1) := by decide +kernel
theorem dX6_judge_2 : decode cX6_judge 2 = .ok (.iload_n 1, 1) := by decide +kernel
theorem dX6_judge_3 : decode cX6_judge 3 = .ok (.aload_n 0, 1) := by decide +kernel
theorem dX6_judge_4 : decode cX6_judge 4 = .ok (.getfield 64, 3) := by decide +kernel
theorem dX6_judge_7 : decode cX6_judge 7 = .ok (.if_icmp .ge 28, 3) := by decide +kernel
theorem dX6_judge_10 : decode cX6_judge 10 = .ok (.aload_n 0, 1) := by decide +kernel
theorem dX6_judge_11 : decode cX6_judge 11 = .ok (.getfield 60, 3) := by decide +kernel
theorem dX6_judge_14 : decode cX6_judge 14 = .ok (.iload_n 1, 1) := by decide +kernel
theorem dX6_judge_15 : decode cX6_judge 15 = .ok (.iaload, 1) := by decide +kernel
theorem dX6_judge_16 : decode cX6_judge 16 = .ok (.aload_n 0, 1) := by decide +kernel
theorem dX6_judge_17 : decode cX6_judge 17 = .ok (.getfield 31, 3) := by decide +kernel
theorem dX6_judge_20 : decode cX6_judge 20 = .ok (.iload_n 1, 1) := by decide +kernel
theorem dX6_judge_21 : decode cX6_judge 21 = .ok (.invokevirtual 119, 3) := by decide +kernel
theorem dX6_judge_24 : decode cX6_judge 24 = .ok (.if_icmp .eq 5, 3) := by decide +kernel
theorem dX6_judge_27 : decode cX6_judge 27 = .ok (.iload_n 1, 1) := by decide +kernel
theorem dX6_judge_28 : decode cX6_judge 28 = .ok (.ireturn, 1) := by decide +kernel
theorem dX6_judge_29 : decode cX6_judge 29 = .ok (.iinc 1 1, 3) := by decide +kernel
theorem dX6_judge_32 : decode cX6_judge 32 = .ok (.goto (-30), 3) := by decide +kernel
theorem dX6_judge_35 : decode cX6_judge 35 = .ok (.iconst (-1), 1) := by decide +kernel
theorem dX6_judge_36 : decode cX6_judge 36 = .ok (.ireturn, 1) := by decide +kernel
theorem dX6_seed_0 : decode cX6_seed 0 = .ok (.iload_n 1, 1) := by decide +kernel
theorem dX6_seed_1 : decode cX6_seed 1 = .ok (.ifCond .ge 6, 3) := by decide +kernel
theorem dX6_seed_4 : decode cX6_seed 4 = .ok (.ldc 70, 2) := by decide +kernel
theorem dX6_seed_6 : decode cX6_seed 6 = .ok (.ireturn, 1) := by decide +kernel
theorem dX6_seed_7 : decode cX6_seed 7 = .ok (.aload_n 0, 1) := by decide +kernel
theorem dX6_seed_8 : decode cX6_seed 8 = .ok (.getfield 31, 3) := by decide +kernel
theorem dX6_seed_11 : decode cX6_seed 11 = .ok (.getfield 301, 3) := by decide +kernel
theorem dX6_seed_14 : decode cX6_seed 14 = .ok (.istore_n 2, 1) := by decide +kernel
theorem dX6_seed_15 : decode cX6_seed 15 = .ok (.aload_n 0, 1) := by decide +kernel
theorem dX6_seed_16 : decode cX6_seed 16 = .ok (.getfield 31, 3) := by decide +kernel
theorem dX6_seed_19 : decode cX6_seed 19 = .ok (.iload_n 1, 1) := by decide +kernel
theorem dX6_seed_20 : decode cX6_seed 20 = .ok (.putfield 301, 3) := by decide +kernel
theorem dX6_seed_23 : decode cX6_seed 23 = .ok (.iload_n 2, 1) := by decide +kernel
theorem dX6_seed_24 : decode cX6_seed 24 = .ok (.ireturn, 1) := by decide +kernel
theorem dX6_keep_0 : decode cX6_keep 0 = .ok (.iload_n 1, 1) := by decide +kernel
theorem dX6_keep_1 : decode cX6_keep 1 = .ok (.ifCond .lt 8, 3) := by decide +kernel
theorem dX6_keep_4 : decode cX6_keep 4 = .ok (.iload_n 1, 1) := by decide +kernel
theorem dX6_keep_5 : decode cX6_keep 5 = .ok (.iconst 2, 1) := by decide +kernel
theorem dX6_keep_6 : decode cX6_keep 6 = .ok (.if_icmp .lt 6, 3) := by decide +kernel
theorem dX6_keep_9 : decode cX6_keep 9 = .ok (.ldc 127, 2) := by decide +kernel
theorem dX6_keep_11 : decode cX6_keep 11 = .ok (.ireturn, 1) := by decide +kernel
theorem dX6_keep_12 : decode cX6_keep 12 = .ok (.aload_n 0, 1) := by decide +kernel
theorem dX6_keep_13 : decode cX6_keep 13 = .ok (.getfield 38, 3) := by decide +kernel
theorem dX6_keep_16 : decode cX6_keep 16 = .ok (.iload_n 1, 1) := by decide +kernel
theorem dX6_keep_17 : decode cX6_keep 17 = .ok (.aaload, 1) := by decide +kernel
theorem dX6_keep_18 : decode cX6_keep 18 = .ok (.aload_n 0, 1) := by decide +kernel
theorem dX6_keep_19 : decode cX6_keep 19 = .ok (.getfield 31, 3) := by decide +kernel
theorem dX6_keep_22 : decode cX6_keep 22 = .ok (.invokevirtual 312, 3) := by decide +kernel
theorem dX6_keep_25 : decode cX6_keep 25 = .ok (.aload_n 0, 1) := by decide +kernel
theorem dX6_keep_26 : decode cX6_keep 26 = .ok (.dup, 1) := by decide +kernel
theorem dX6_keep_27 : decode cX6_keep 27 = .ok (.getfield 42, 3) := by decide +kernel
theorem dX6_keep_30 : decode cX6_keep 30 = .ok (.iconst 1, 1) := by decide +kernel
theorem dX6_keep_31 : decode cX6_keep 31 = .ok (.iload_n 1, 1) := by decide +kernel
theorem dX6_keep_32 : decode cX6_keep 32 = .ok (.ishl, 1) := by decide +kernel
theorem dX6_keep_33 : decode cX6_keep 33 = .ok (.ior, 1) := by decide +kernel
theorem dX6_keep_34 : decode cX6_keep 34 = .ok (.putfield 42, 3) := by decide +kernel
theorem dX6_keep_37 : decode cX6_keep 37 = .ok (.iconst 1, 1) := by decide +kernel
theorem dX6_keep_38 : decode cX6_keep 38 = .ok (.ireturn, 1) := by decide +kernel
theorem dX6_goBack_0 : decode cX6_goBack 0 = .ok (.iload_n 1, 1) := by decide +kernel
theorem dX6_goBack_1 : decode cX6_goBack 1 = .ok (.ifCond .lt 8, 3) := by decide +kernel
theorem dX6_goBack_4 : decode cX6_goBack 4 = .ok (.iload_n 1, 1) := by decide +kernel
theorem dX6_goBack_5 : decode cX6_goBack 5 = .ok (.iconst 2, 1) := by decide +kernel
theorem dX6_goBack_6 : decode cX6_goBack 6 = .ok (.if_icmp .lt 6, 3) := by decide +kernel
theorem dX6_goBack_9 : decode cX6_goBack 9 = .ok (.ldc 127, 2) := by decide +kernel
theorem dX6_goBack_11 : decode cX6_goBack 11 = .ok (.ireturn, 1) := by decide +kernel
theorem dX6_goBack_12 : decode cX6_goBack 12 = .ok (.aload_n 0, 1) := by decide +kernel
theorem dX6_goBack_13 : decode cX6_goBack 13 = .ok (.getfield 42, 3) := by decide +kernel
theorem dX6_goBack_16 : decode cX6_goBack 16 = .ok (.iload_n 1, 1) := by decide +kernel
theorem dX6_goBack_17 : decode cX6_goBack 17 = .ok (.invokestatic 265, 3) := by decide +kernel
theorem dX6_goBack_20 : decode cX6_goBack 20 = .ok (.ifCond .ne 6, 3) := by decide +kernel
theorem dX6_goBack_23 : decode cX6_goBack 23 = .ok (.ldc 194, 2) := by decide +kernel
theorem dX6_goBack_25 : decode cX6_goBack 25 = .ok (.ireturn, 1) := by decide +kernel
theorem dX6_goBack_26 : decode cX6_goBack 26 = .ok (.aload_n 0, 1) := by decide +kernel
theorem dX6_goBack_27 : decode cX6_goBack 27 = .ok (.getfield 31, 3) := by decide +kernel
theorem dX6_goBack_30 : decode cX6_goBack 30 = .ok (.aload_n 0, 1) := by decide +kernel
theorem dX6_goBack_31 : decode cX6_goBack 31 = .ok (.getfield 38, 3) := by decide +kernel
theorem dX6_goBack_34 : decode cX6_goBack 34 = .ok (.iload_n 1, 1) := by decide +kernel
theorem dX6_goBack_35 : decode cX6_goBack 35 = .ok (.aaload, 1) := by decide +kernel
theorem dX6_goBack_36 : decode cX6_goBack 36 = .ok (.invokevirtual 312, 3) := by decide +kernel
theorem dX6_goBack_39 : decode cX6_goBack 39 = .ok (.iconst 1, 1) := by decide +kernel
theorem dX6_goBack_40 : decode cX6_goBack 40 = .ok (.ireturn, 1) := by decide +kernel
theorem dX6_has_0 : decode cX6_has 0 = .ok (.iload_n 0, 1) := by decide +kernel
theorem dX6_has_1 : decode cX6_has 1 = .ok (.iload_n 1, 1) := by decide +kernel
theorem dX6_has_2 : decode cX6_has 2 = .ok (.iushr, 1) := by decide +kernel
theorem dX6_has_3 : decode cX6_has 3 = .ok (.iconst 1, 1) := by decide +kernel
theorem dX6_has_4 : decode cX6_has 4 = .ok (.iand, 1) := by decide +kernel
theorem dX6_has_5 : decode cX6_has 5 = .ok (.iconst 1, 1) := by decide +kernel
theorem dX6_has_6 : decode cX6_has 6 = .ok (.if_icmp .ne 7, 3) := by decide +kernel
theorem dX6_has_9 : decode cX6_has 9 = .ok (.iconst 1, 1) := by decide +kernel
theorem dX6_has_10 : decode cX6_has 10 = .ok (.goto 4, 3) := by decide +kernel
theorem dX6_has_13 : decode cX6_has 13 = .ok (.iconst 0, 1) := by decide +kernel
theorem dX6_has_14 : decode cX6_has 14 = .ok (.ireturn, 1) := by decide +kernel
theorem dX6_isSetOf_0 : decode cX6_isSetOf 0 = .ok (.iload_n 0, 1) := by decide +kernel
theorem dX6_isSetOf_1 : decode cX6_isSetOf 1 = .ok (.iload_n 1, 1) := by decide +kernel
theorem dX6_isSetOf_2 : decode cX6_isSetOf 2 = .ok (.iushr, 1) := by decide +kernel
theorem dX6_isSetOf_3 : decode cX6_isSetOf 3 = .ok (.ifCond .ne 7, 3) := by decide +kernel
theorem dX6_isSetOf_6 : decode cX6_isSetOf 6 = .ok (.iconst 1, 1) := by decide +kernel
theorem dX6_isSetOf_7 : decode cX6_isSetOf 7 = .ok (.goto 4, 3) := by decide +kernel
theorem dX6_isSetOf_10 : decode cX6_isSetOf 10 = .ok (.iconst 0, 1) := by decide +kernel
theorem dX6_isSetOf_11 : decode cX6_isSetOf 11 = .ok (.ireturn, 1) := by decide +kernel
end
section
theorem dX7_in_0 : decode cX7_in 0 = .ok (.lload_n 0, 1) := by decide +kernel
theorem dX7_in_1 : decode cX7_in 1 = .ok (.lload_n 2, 1) := by decide +kernel
theorem dX7_in_2 : decode cX7_in 2 = .ok (.lcmp, 1) := by decide +kernel
theorem dX7_in_3 : decode cX7_in 3 = .ok (.ifCond .lt 14, 3) := by decide +kernel
theorem dX7_in_6 : decode cX7_in 6 = .ok (.lload_n 0, 1) := by decide +kernel
theorem dX7_in_7 : decode cX7_in 7 = .ok (.lload 4, 2) := by decide +kernel
theorem dX7_in_9 : decode cX7_in 9 = .ok (.lcmp, 1) := by decide +kernel
theorem dX7_in_10 : decode cX7_in 10 = .ok (.ifCond .gt 7, 3) := by decide +kernel
theorem dX7_in_13 : decode cX7_in 13 = .ok (.iconst 1, 1) := by decide +kernel
theorem dX7_in_14 : decode cX7_in 14 = .ok (.goto 4, 3) := by decide +kernel
theorem dX7_in_17 : decode cX7_in 17 = .ok (.iconst 0, 1) := by decide +kernel
theorem dX7_in_18 : decode cX7_in 18 = .ok (.ireturn, 1) := by decide +kernel
theorem dX7_one_0 : decode cX7_one 0 = .ok (.iload_n 0, 1) := by decide +kernel
theorem dX7_one_1 : decode cX7_one 1 = .ok (.ifCond .eq 7, 3) := by decide +kernel
theorem dX7_one_4 : decode cX7_one 4 = .ok (.iconst 1, 1) := by decide +kernel
theorem dX7_one_5 : decode cX7_one 5 = .ok (.goto 4, 3) := by decide +kernel
theorem dX7_one_8 : decode cX7_one 8 = .ok (.iconst 0, 1) := by decide +kernel
theorem dX7_one_9 : decode cX7_one 9 = .ok (.ireturn, 1) := by decide +kernel
theorem dX7_has_0 : decode cX7_has 0 = .ok (.iload_n 0, 1) := by decide +kernel
theorem dX7_has_1 : decode cX7_has 1 = .ok (.iload_n 1, 1) := by decide +kernel
theorem dX7_has_2 : decode cX7_has 2 = .ok (.ishr, 1) := by decide +kernel
theorem dX7_has_3 : decode cX7_has 3 = .ok (.iconst 1, 1) := by decide +kernel
theorem dX7_has_4 : decode cX7_has 4 = .ok (.iand, 1) := by decide +kernel
theorem dX7_has_5 : decode cX7_has 5 = .ok (.iconst 1, 1) := by decide +kernel
theorem dX7_has_6 : decode cX7_has 6 = .ok (.if_icmp .ne 7, 3) := by decide +kernel
theorem dX7_has_9 : decode cX7_has 9 = .ok (.iconst 1, 1) := by decide +kernel
theorem dX7_has_10 : decode cX7_has 10 = .ok (.goto 4, 3) := by decide +kernel
theorem dX7_has_13 : decode cX7_has 13 = .ok (.iconst 0, 1) := by decide +kernel
theorem dX7_has_14 : decode cX7_has 14 = .ok (.ireturn, 1) := by decide +kernel
theorem dX7_ones_0 : decode cX7_ones 0 = .ok (.iconst 0, 1) := by decide +kernel
theorem dX7_ones_1 : decode cX7_ones 1 = .ok (.istore_n 1, 1) := by decide +kernel
theorem dX7_ones_2 : decode cX7_ones 2 = .ok (.iconst 0, 1) := by decide +kernel
theorem dX7_ones_3 : decode cX7_ones 3 = .ok (.istore_n 2, 1) := by decide +kernel
theorem dX7_ones_4 : decode cX7_ones 4 = .ok (.iload_n 2, 1) := by decide +kernel
theorem dX7_ones_5 : decode cX7_ones 5 = .ok (.bipush 16, 2) := by decide +kernel
theorem dX7_ones_7 : decode cX7_ones 7 = .ok (.if_icmp .ge 17, 3) := by decide +kernel
theorem dX7_ones_10 : decode cX7_ones 10 = .ok (.iload_n 1, 1) := by decide +kernel
theorem dX7_ones_11 : decode cX7_ones 11 = .ok (.iload_n 0, 1) := by decide +kernel
theorem dX7_ones_12 : decode cX7_ones 12 = .ok (.iload_n 2, 1) := by decide +kernel
theorem dX7_ones_13 : decode cX7_ones 13 = .ok (.ishr, 1) := by decide +kernel
theorem dX7_ones_14 : decode cX7_ones 14 = .ok (.iconst 1, 1) := by decide +kernel
theorem dX7_ones_15 : decode cX7_ones 15 = .ok (.iand, 1) := by decide +kernel
theorem dX7_ones_16 : decode cX7_ones 16 = .ok (.iadd, 1) := by decide +kernel
theorem dX7_ones_17 : decode cX7_ones 17 = .ok (.istore_n 1, 1) := by decide +kernel
theorem dX7_ones_18 : decode cX7_ones 18 = .ok (.iinc 2 1, 3) := by decide +kernel
theorem dX7_ones_21 : decode cX7_ones 21 = .ok (.goto (-17), 3) := by decide +kernel
theorem dX7_ones_24 : decode cX7_ones 24 = .ok (.iload_n 1, 1) := by decide +kernel
theorem dX7_ones_25 : decode cX7_ones 25 = .ok (.ireturn, 1) := by decide +kernel
theorem dX7_feed_0 : decode cX7_feed 0 = .ok (.iload_n 1, 1) := by decide +kernel
theorem dX7_feed_1 : decode cX7_feed 1 = .ok (.i2l, 1) := by decide +kernel
theorem dX7_feed_2 : decode cX7_feed 2 = .ok (.lconst 1, 1) := by decide +kernel
theorem dX7_feed_3 : decode cX7_feed 3 = .ok (.ldc2_w 57, 3) := by decide +kernel
theorem dX7_feed_6 : decode cX7_feed 6 = .ok (.invokestatic 59, 3) := by decide +kernel
theorem dX7_feed_9 : decode cX7_feed 9 = .ok (.ifCond .ne 6, 3) := by decide +kernel
theorem dX7_feed_12 : decode cX7_feed 12 = .ok (.ldc 63, 2) := by decide +kernel
theorem dX7_feed_14 : decode cX7_feed 14 = .ok (.ireturn, 1) := by decide +kernel
theorem dX7_feed_15 : decode cX7_feed 15 = .ok (.aload_n 0, 1) := by decide +kernel
theorem dX7_feed_16 : decode cX7_feed 16 = .ok (.getfield 64, 3) := by decide +kernel
theorem dX7_feed_19 : decode cX7_feed 19 = .ok (.iload_n 1, 1) := by decide +kernel
theorem dX7_feed_20 : decode cX7_feed 20 = .ok (.iadd, 1) := by decide +kernel
theorem dX7_feed_21 : decode cX7_feed 21 = .ok (.sipush 400, 3) := by decide +kernel
theorem dX7_feed_24 : decode cX7_feed 24 = .ok (.if_icmp .le 6, 3) := by decide +kernel
theorem dX7_feed_27 : decode cX7_feed 27 = .ok (.ldc 67, 2) := by decide +kernel
theorem dX7_feed_29 : decode cX7_feed 29 = .ok (.ireturn, 1) := by decide +kernel
theorem dX7_feed_30 : decode cX7_feed 30 = .ok (.iload_n 1, 1) := by decide +kernel
theorem dX7_feed_31 : decode cX7_feed 31 = .ok (.iconst 1, 1) := by decide +kernel
theorem dX7_feed_32 : decode cX7_feed 32 = .ok (.isub, 1) := by decide +kernel
theorem dX7_feed_33 : decode cX7_feed 33 = .ok (.istore 4, 2) := by decide +kernel
theorem dX7_feed_35 : decode cX7_feed 35 = .ok (.iload 4, 2) := by decide +kernel
theorem dX7_feed_37 : decode cX7_feed 37 = .ok (.ifCond .lt 40, 3) := by decide +kernel
theorem dX7_feed_40 : decode cX7_feed 40 = .ok (.aload_n 0, 1) := by decide +kernel
theorem dX7_feed_41 : decode cX7_feed 41 = .ok (.getfield 36, 3) := by decide +kernel
theorem dX7_feed_44 : decode cX7_feed 44 = .ok (.aload_n 0, 1) := by decide +kernel
theorem dX7_feed_45 : decode cX7_feed 45 = .ok (.getfield 64, 3) := by decide +kernel
theorem dX7_feed_48 : decode cX7_feed 48 = .ok (.lload_n 2, 1) := by decide +kernel
theorem dX7_feed_49 : decode cX7_feed 49 = .ok (.bipush 8, 2) := by decide +kernel
theorem dX7_feed_51 : decode cX7_feed 51 = .ok (.iload 4, 2) := by decide +kernel
theorem dX7_feed_53 : decode cX7_feed 53 = .ok (.imul, 1) := by decide +kernel
theorem dX7_feed_54 : decode cX7_feed 54 = .ok (.lshr, 1) := by decide +kernel
theorem dX7_feed_55 : decode cX7_feed 55 = .ok (.ldc2_w 68, 3) := by decide +kernel
theorem dX7_feed_58 : decode cX7_feed 58 = .ok (.land, 1) := by decide +kernel
theorem dX7_feed_59 : decode cX7_feed 59 = .ok (.l2i, 1) := by decide +kernel
theorem dX7_feed_60 : decode cX7_feed 60 = .ok (.iastore, 1) := by decide +kernel
theorem dX7_feed_61 : decode cX7_feed 61 = .ok (.aload_n 0, 1) := by decide +kernel
theorem dX7_feed_62 : decode cX7_feed 62 = .ok (.dup, 1) := by decide +kernel
theorem dX7_feed_63 : decode cX7_feed 63 = .ok (.getfield 64, 3) := by decide +kernel
theorem dX7_feed_66 : decode cX7_feed 66 = .ok (.iconst 1, 1) := by decide +kernel
theorem dX7_feed_67 : decode cX7_feed 67 = .ok (.iadd, 1) := by decide +kernel
theorem dX7_feed_68 : decode cX7_feed 68 = .ok (.putfield 64, 3) := by decide +kernel
theorem dX7_feed_71 : decode cX7_feed 71 = .ok (.iinc 4 (-1), 3) := by decide +kernel
theorem dX7_feed_74 : decode cX7_feed 74 = .ok (.goto (-39), 3) := by decide +kernel
theorem dX7_feed_77 : decode cX7_feed 77 = .ok (.aload_n 0, 1) := by decide +kernel
theorem dX7_feed_78 : decode cX7_feed 78 = .ok (.getfield 64, 3) := by decide +kernel
theorem dX7_feed_81 : decode cX7_feed 81 = .ok (.ireturn, 1) := by decide +kernel
theorem dX7_here_0 : decode cX7_here 0 = .ok (.aload_n 0, 1) := by decide +kernel
theorem dX7_here_1 : decode cX7_here 1 = .ok (.getfield 70, 3) := by decide +kernel
theorem dX7_here_4 : decode cX7_here 4 = .ok (.aload_n 0, 1) := by decide +kernel
theorem dX7_here_5 : decode cX7_here 5 = .ok (.getfield 64, 3) := by decide +kernel
theorem dX7_here_8 : decode cX7_here 8 = .ok (.if_icmp .ge 30, 3) := by decide +kernel
theorem dX7_here_11 : decode cX7_here 11 = .ok (.aload_n 0, 1) := by decide +kernel
theorem dX7_here_12 : decode cX7_here 12 = .ok (.getfield 36, 3) := by decide +kernel
theorem dX7_here_15 : decode cX7_here 15 = .ok (.aload_n 0, 1) := by decide +kernel
theorem dX7_here_16 : decode cX7_here 16 = .ok (.getfield 70, 3) := by decide +kernel
theorem dX7_here_19 : decode cX7_here 19 = .ok (.iaload, 1) := by decide +kernel
theorem dX7_here_20 : decode cX7_here 20 = .ok (.bipush 32, 2) := by decide +kernel
theorem dX7_here_22 : decode cX7_here 22 = .ok (.if_icmp .ne 16, 3) := by decide +kernel
theorem dX7_here_25 : decode cX7_here 25 = .ok (.aload_n 0, 1) := by decide +kernel
theorem dX7_here_26 : decode cX7_here 26 = .ok (.dup, 1) := by decide +kernel
theorem dX7_here_27 : decode cX7_here 27 = .ok (.getfield 70, 3) := by decide +kernel
theorem dX7_here_30 : decode cX7_here 30 = .ok (.iconst 1, 1) := by decide +kernel
theorem dX7_here_31 : decode cX7_here 31 = .ok (.iadd, 1) := by decide +kernel
theorem dX7_here_32 : decode cX7_here 32 = .ok (.putfield 70, 3) := by decide +kernel
theorem dX7_here_35 : decode cX7_here 35 = .ok (.goto (-35), 3) := by decide +kernel
theorem dX7_here_38 : decode cX7_here 38 = .ok (.aload_n 0, 1) := by decide +kernel
theorem dX7_here_39 : decode cX7_here 39 = .ok (.getfield 70, 3) := by decide +kernel
theorem dX7_here_42 : decode cX7_here 42 = .ok (.aload_n 0, 1) := by decide +kernel
theorem dX7_here_43 : decode cX7_here 43 = .ok (.getfield 64, 3) := by decide +kernel
theorem dX7_here_46 : decode cX7_here 46 = .ok (.if_icmp .ge 15, 3) := by decide +kernel
theorem dX7_here_49 : decode cX7_here 49 = .ok (.aload_n 0, 1) := by decide +kernel
theorem dX7_here_50 : decode cX7_here 50 = .ok (.getfield 36, 3) := by decide +kernel
theorem dX7_here_53 : decode cX7_here 53 = .ok (.aload_n 0, 1) := by decide +kernel
theorem dX7_here_54 : decode cX7_here 54 = .ok (.getfield 70, 3) := by decide +kernel
theorem dX7_here_57 : decode cX7_here 57 = .ok (.iaload, 1) := by decide +kernel
theorem dX7_here_58 : decode cX7_here 58 = .ok (.goto 4, 3) := by decide +kernel
theorem dX7_here_61 : decode cX7_here 61 = .ok (.iconst (-1), 1) := by decide +kernel
theorem dX7_here_62 : decode cX7_here 62 = .ok (.ireturn, 1) := by decide +kernel
theorem dX7_want_0 : decode cX7_want 0 = .ok (.iload_n 1, 1) := by decide +kernel
theorem dX7_want_1 : decode cX7_want 1 = .ok (.ifCond .ne 20, 3) := by decide +kernel
theorem dX7_want_4 : decode cX7_want 4 = .ok (.aload_n 0, 1) := by decide +kernel
theorem dX7_want_5 : decode cX7_want 5 = .ok (.getfield 73, 3) := by decide +kernel
theorem dX7_want_8 : decode cX7_want 8 = .ok (.ifCond .ne 13, 3) := by decide +kernel
theorem dX7_want_11 : decode cX7_want 11 = .ok (.aload_n 0, 1) := by decide +kernel
theorem dX7_want_12 : decode cX7_want 12 = .ok (.iload_n 2, 1) := by decide +kernel
theorem dX7_want_13 : decode cX7_want 13 = .ok (.putfield 73, 3) := by decide +kernel
theorem dX7_want_16 : decode cX7_want 16 = .ok (.aload_n 0, 1) := by decide +kernel
theorem dX7_want_17 : decode cX7_want 17 = .ok (.iload_n 3, 1) := by decide +kernel
theorem dX7_want_18 : decode cX7_want 18 = .ok (.putfield 39, 3) := by decide +kernel
theorem dX7_want_21 : decode cX7_want 21 = .ok (.aload_n 0, 1) := by decide +kernel
theorem dX7_want_22 : decode cX7_want 22 = .ok (.getfield 73, 3) := by decide +kernel
theorem dX7_want_25 : decode cX7_want 25 = .ok (.ifCond .ne 7, 3) := by decide +kernel
theorem dX7_want_28 : decode cX7_want 28 = .ok (.iconst 1, 1) := by decide +kernel
theorem dX7_want_29 : decode cX7_want 29 = .ok (.goto 4, 3) := by decide +kernel
theorem dX7_want_32 : decode cX7_want 32 = .ok (.iconst 0, 1) := by decide +kernel
theorem dX7_want_33 : decode cX7_want 33 = .ok (.ireturn, 1) := by decide +kernel
theorem dX7_takeWord_0 : decode cX7_takeWord 0 = .ok (.aload_n 0, 1) := by decide +kernel
theorem dX7_takeWord_1 : decode cX7_takeWord 1 = .ok (.invokevirtual 76, 3) := by decide +kernel
theorem dX7_takeWord_4 : decode cX7_takeWord 4 = .ok (.istore_n 1, 1) := by decide +kernel
theorem dX7_takeWord_5 : decode cX7_takeWord 5 = .ok (.aload_n 0, 1) := by decide +kernel
theorem dX7_takeWord_6 : decode cX7_takeWord 6 = .ok (.aload_n 0, 1) := by decide +kernel
theorem dX7_takeWord_7 : decode cX7_takeWord 7 = .ok (.getfield 70, 3) := by decide +kernel
theorem dX7_takeWord_10 : decode cX7_takeWord 10 = .ok (.putfield 80, 3) := by decide +kernel
theorem dX7_takeWord_13 : decode cX7_takeWord 13 = .ok (.aload_n 0, 1) := by decide +kernel
theorem dX7_takeWord_14 : decode cX7_takeWord 14 = .ok (.getfield 70, 3) := by decide +kernel
theorem dX7_takeWord_17 : decode cX7_takeWord 17 = .ok (.aload_n 0, 1) := by decide +kernel
theorem dX7_takeWord_18 : decode cX7_takeWord 18 = .ok (.getfield 64, 3) := by decide +kernel
theorem dX7_takeWord_21 : decode cX7_takeWord 21 = .ok (.if_icmp .ge 38, 3) := by decide +kernel
theorem dX7_takeWord_24 : decode cX7_takeWord 24 = .ok (.aload_n 0, 1) := by decide +kernel
theorem dX7_takeWord_25 : decode cX7_takeWord 25 = .ok (.getfield 36, 3) := by decide +kernel
theorem dX7_takeWord_28 : decode cX7_takeWord 28 = .ok (.aload_n 0, 1) := by decide +kernel
theorem dX7_takeWord_29 : decode cX7_takeWord 29 = .ok (.getfield 70, 3) := by decide +kernel
theorem dX7_takeWord_32 : decode cX7_takeWord 32 = .ok (.iaload, 1) := by decide +kernel
theorem dX7_takeWord_33 : decode cX7_takeWord 33 = .ok (.i2l, 1) := by decide +kernel
theorem dX7_takeWord_34 : decode cX7_takeWord 34 = .ok (.ldc2_w 83, 3) := by decide +kernel
theorem dX7_takeWord_37 : decode cX7_takeWord 37 = .ok (.ldc2_w 85, 3) := by decide +kernel
theorem dX7_takeWord_40 : decode cX7_takeWord 40 = .ok (.invokestatic 59, 3) := by decide +kernel
theorem dX7_takeWord_43 : decode cX7_takeWord 43 = .ok (.ifCond .eq 16, 3) := by decide +kernel
theorem dX7_takeWord_46 : decode cX7_takeWord 46 = .ok (.aload_n 0, 1) := by decide +kernel
theorem dX7_takeWord_47 : decode cX7_takeWord 47 = .ok (.dup, 1) := by decide +kernel
theorem dX7_takeWord_48 : decode cX7_takeWord 48 = .ok (.getfield 70, 3) := by decide +kernel
theorem dX7_takeWord_51 : decode cX7_takeWord 51 = .ok (.iconst 1, 1) := by decide +kernel
theorem dX7_takeWord_52 : decode cX7_takeWord 52 = .ok (.iadd, 1) := by decide +kernel
theorem dX7_takeWord_53 : decode cX7_takeWord 53 = .ok (.putfield 70, 3) := by decide +kernel
theorem dX7_takeWord_56 : decode cX7_takeWord 56 = .ok (.goto (-43), 3) := by decide +kernel
theorem dX7_takeWord_59 : decode cX7_takeWord 59 = .ok (.aload_n 0, 1) := by decide +kernel
theorem dX7_takeWord_60 : decode cX7_takeWord 60 = .ok (.aload_n 0, 1) := by decide +kernel
theorem dX7_takeWord_61 : decode cX7_takeWord 61 = .ok (.getfield 70, 3) := by decide +kernel
theorem dX7_takeWord_64 : decode cX7_takeWord 64 = .ok (.aload_n 0, 1) := by decide +kernel
theorem dX7_takeWord_65 : decode cX7_takeWord 65 = .ok (.getfield 80, 3) := by decide +kernel
theorem dX7_takeWord_68 : decode cX7_takeWord 68 = .ok (.isub, 1) := by decide +kernel
theorem dX7_takeWord_69 : decode cX7_takeWord 69 = .ok (.putfield 87, 3) := by decide +kernel
theorem dX7_takeWord_72 : decode cX7_takeWord 72 = .ok (.return_, 1) := by decide +kernel
theorem dX7_isWord_0 : decode cX7_isWord 0 = .ok (.aload_n 0, 1) := by decide +kernel
theorem dX7_isWord_1 : decode cX7_isWord 1 = .ok (.getfield 87, 3) := by decide +kernel
theorem dX7_isWord_4 : decode cX7_isWord 4 = .ok (.iload_n 1, 1) := by decide +kernel
theorem dX7_isWord_5 : decode cX7_isWord 5 = .ok (.if_icmp .ne 7, 3) := by decide +kernel
theorem dX7_isWord_8 : decode cX7_isWord 8 = .ok (.iconst 1, 1) := by decide +kernel
theorem dX7_isWord_9 : decode cX7_isWord 9 = .ok (.goto 4, 3) := by decide +kernel
theorem dX7_isWord_12 : decode cX7_isWord 12 = .ok (.iconst 0, 1) := by decide +kernel
theorem dX7_isWord_13 : decode cX7_isWord 13 = .ok (.istore 9, 2) := by decide +kernel
theorem dX7_isWord_15 : decode cX7_isWord 15 = .ok (.iconst 0, 1) := by decide +kernel
theorem dX7_isWord_16 : decode cX7_isWord 16 = .ok (.istore 10, 2) := by decide +kernel
theorem dX7_isWord_18 : decode cX7_isWord 18 = .ok (.iload 10, 2) := by decide +kernel
theorem dX7_isWord_20 : decode cX7_isWord 20 = .ok (.iload_n 1, 1) := by decide +kernel
theorem dX7_isWord_21 : decode cX7_isWord 21 = .ok (.if_icmp .ge 101, 3) := by decide +kernel
theorem dX7_isWord_24 : decode cX7_isWord 24 = .ok (.iload 9, 2) := by decide +kernel
theorem dX7_isWord_26 : decode cX7_isWord 26 = .ok (.ifCond .eq 96, 3) := by decide +kernel
theorem dX7_isWord_29 : decode cX7_isWord 29 = .ok (.aload_n 0, 1) := by decide +kernel
theorem dX7_isWord_30 : decode cX7_isWord 30 = .ok (.getfield 36, 3) := by decide +kernel
theorem dX7_isWord_33 : decode cX7_isWord 33 = .ok (.aload_n 0, 1) := by decide +kernel
theorem dX7_isWord_34 : decode cX7_isWord 34 = .ok (.getfield 80, 3) := by decide +kernel
theorem dX7_isWord_37 : decode cX7_isWord 37 = .ok (.iload 10, 2) := by decide +kernel
theorem dX7_isWord_39 : decode cX7_isWord 39 = .ok (.iadd, 1) := by decide +kernel
theorem dX7_isWord_40 : decode cX7_isWord 40 = .ok (.iaload, 1) := by decide +kernel
theorem dX7_isWord_41 : decode cX7_isWord 41 = .ok (.iload 10, 2) := by decide +kernel
theorem dX7_isWord_43 : decode cX7_isWord 43 = .ok (.ifCond .ne 7, 3) := by decide +kernel
theorem dX7_isWord_46 : decode cX7_isWord 46 = .ok (.iload_n 2, 1) := by decide +kernel
theorem dX7_isWord_47 : decode cX7_isWord 47 = .ok (.goto 59, 3) := by decide +kernel
theorem dX7_isWord_50 : decode cX7_isWord 50 = .ok (.iload 10, 2) := by decide +kernel
theorem dX7_isWord_52 : decode cX7_isWord 52 = .ok (.iconst 1, 1) := by decide +kernel
theorem dX7_isWord_53 : decode cX7_isWord 53 = .ok (.if_icmp .ne 7, 3) := by decide +kernel
theorem dX7_isWord_56 : decode cX7_isWord 56 = .ok (.iload_n 3, 1) := by decide +kernel
theorem dX7_isWord_57 : decode cX7_isWord 57 = .ok (.goto 49, 3) := by decide +kernel
theorem dX7_isWord_60 : decode cX7_isWord 60 = .ok (.iload 10, 2) := by decide +kernel
theorem dX7_isWord_62 : decode cX7_isWord 62 = .ok (.iconst 2, 1) := by decide +kernel
theorem dX7_isWord_63 : decode cX7_isWord 63 = .ok (.if_icmp .ne 8, 3) := by decide +kernel
theorem dX7_isWord_66 : decode cX7_isWord 66 = .ok (.iload 4, 2) := by decide +kernel
theorem dX7_isWord_68 : decode cX7_isWord 68 = .ok (.goto 38, 3) := by decide +kernel
theorem dX7_isWord_71 : decode cX7_isWord 71 = .ok (.iload 10, 2) := by decide +kernel
theorem dX7_isWord_73 : decode cX7_isWord 73 = .ok (.iconst 3, 1) := by decide +kernel
theorem dX7_isWord_74 : decode cX7_isWord 74 = .ok (.if_icmp .ne 8, 3) := by decide +kernel
theorem dX7_isWord_77 : decode cX7_isWord 77 = .ok (.iload 5, 2) := by decide +kernel
theorem dX7_isWord_79 : decode cX7_isWord 79 = .ok (.goto 27, 3) := by decide +kernel
theorem dX7_isWord_82 : decode cX7_isWord 82 = .ok (.iload 10, 2) := by decide +kernel
theorem dX7_isWord_84 : decode cX7_isWord 84 = .ok (.iconst 4, 1) := by decide +kernel
theorem dX7_isWord_85 : decode cX7_isWord 85 = .ok (.if_icmp .ne 8, 3) := by decide +kernel
theorem dX7_isWord_88 : decode cX7_isWord 88 = .ok (.iload 6, 2) := by decide +kernel
theorem dX7_isWord_90 : decode cX7_isWord 90 = .ok (.goto 16, 3) := by decide +kernel
theorem dX7_isWord_93 : decode cX7_isWord 93 = .ok (.iload 10, 2) := by decide +kernel
theorem dX7_isWord_95 : decode cX7_isWord 95 = .ok (.iconst 5, 1) := by decide +kernel
theorem dX7_isWord_96 : decode cX7_isWord 96 = .ok (.if_icmp .ne 8, 3) := by decide +kernel
theorem dX7_isWord_99 : decode cX7_isWord 99 = .ok (.iload 7, 2) := by decide +kernel
theorem dX7_isWord_101 : decode cX7_isWord 101 = .ok (.goto 5, 3) := by decide +kernel
theorem dX7_isWord_104 : decode cX7_isWord 104 = .ok (.iload 8, 2) := by decide +kernel
theorem dX7_isWord_106 : decode cX7_isWord 106 = .ok (.if_icmp .ne 7, 3) := by decide +kernel
theorem dX7_isWord_109 : decode cX7_isWord 109 = .ok (.iconst 1, 1) := by decide +kernel
theorem dX7_isWord_110 : decode cX7_isWord 110 = .ok (.goto 4, 3) := by decide +kernel
theorem dX7_isWord_113 : decode cX7_isWord 113 = .ok (.iconst 0, 1) := by decide +kernel
theorem dX7_isWord_114 : decode cX7_isWord 114 = .ok (.istore 9, 2) := by decide +kernel
theorem dX7_isWord_116 : decode cX7_isWord 116 = .ok (.iinc 10 1, 3) := by decide +kernel
theorem dX7_isWord_119 : decode cX7_isWord 119 = .ok (.goto (-101), 3) := by decide +kernel
theorem dX7_isWord_122 : decode cX7_isWord 122 = .ok (.iload 9, 2) := by decide +kernel
theorem dX7_isWord_124 : decode cX7_isWord 124 = .ok (.ireturn, 1) := by decide +kernel
theorem dX7_takeNumber_0 : decode cX7_takeNumber 0 = .ok (.aload_n 0, 1) := by decide +kernel
theorem dX7_takeNumber_1 : decode cX7_takeNumber 1 = .ok (.getfield 73, 3) := by decide +kernel
theorem dX7_takeNumber_4 : decode cX7_takeNumber 4 = .ok (.ifCond .le 5, 3) := by decide +kernel
theorem dX7_takeNumber_7 : decode cX7_takeNumber 7 = .ok (.iconst 0, 1) := by decide +kernel
theorem dX7_takeNumber_8 : decode cX7_takeNumber 8 = .ok (.ireturn, 1) := by decide +kernel
theorem dX7_takeNumber_9 : decode cX7_takeNumber 9 = .ok (.aload_n 0, 1) := by decide +kernel
theorem dX7_takeNumber_10 : decode cX7_takeNumber 10 = .ok (.invokevirtual 76, 3) := by decide +kernel
theorem dX7_takeNumber_13 : decode cX7_takeNumber 13 = .ok (.istore_n 3, 1) := by decide +kernel
theorem dX7_takeNumber_14 : decode cX7_takeNumber 14 = .ok (.aload_n 0, 1) := by decide +kernel
theorem dX7_takeNumber_15 : decode cX7_takeNumber 15 = .ok (.aload_n 0, 1) := by decide +kernel
theorem dX7_takeNumber_16 : decode cX7_takeNumber 16 = .ok (.getfield 70, 3) := by decide +kernel
theorem dX7_takeNumber_19 : decode cX7_takeNumber 19 = .ok (.putfield 80, 3) := by decide +kernel
theorem dX7_takeNumber_22 : decode cX7_takeNumber 22 = .ok (.aload_n 0, 1) := by decide +kernel
theorem dX7_takeNumber_23 : decode cX7_takeNumber 23 = .ok (.iload_n 3, 1) := by decide +kernel
theorem dX7_takeNumber_24 : decode cX7_takeNumber 24 = .ok (.i2l, 1) := by decide +kernel
theorem dX7_takeNumber_25 : decode cX7_takeNumber 25 = .ok (.ldc2_w 90, 3) := by decide +kernel
theorem dX7_takeNumber_28 : decode cX7_takeNumber 28 = .ok (.ldc2_w 92, 3) := by decide +kernel
theorem dX7_takeNumber_31 : decode cX7_takeNumber 31 = .ok (.invokestatic 59, 3) := by decide +kernel
theorem dX7_takeNumber_34 : decode cX7_takeNumber 34 = .ok (.iconst 1, 1) := by decide +kernel
theorem dX7_takeNumber_35 : decode cX7_takeNumber 35 = .ok (.aload_n 0, 1) := by decide +kernel
theorem dX7_takeNumber_36 : decode cX7_takeNumber 36 = .ok (.getfield 70, 3) := by decide +kernel
theorem dX7_takeNumber_39 : decode cX7_takeNumber 39 = .ok (.invokevirtual 94, 3) := by decide +kernel
theorem dX7_takeNumber_42 : decode cX7_takeNumber 42 = .ok (.ifCond .ne 5, 3) := by decide +kernel
theorem dX7_takeNumber_45 : decode cX7_takeNumber 45 = .ok (.iconst 0, 1) := by decide +kernel
theorem dX7_takeNumber_46 : decode cX7_takeNumber 46 = .ok (.ireturn, 1) := by decide +kernel
theorem dX7_takeNumber_47 : decode cX7_takeNumber 47 = .ok (.iconst 0, 1) := by decide +kernel
theorem dX7_takeNumber_48 : decode cX7_takeNumber 48 = .ok (.istore 4, 2) := by decide +kernel
theorem dX7_takeNumber_50 : decode cX7_takeNumber 50 = .ok (.aload_n 0, 1) := by decide +kernel
theorem dX7_takeNumber_51 : decode cX7_takeNumber 51 = .ok (.getfield 70, 3) := by decide +kernel
theorem dX7_takeNumber_54 : decode cX7_takeNumber 54 = .ok (.aload_n 0, 1) := by decide +kernel
theorem dX7_takeNumber_55 : decode cX7_takeNumber 55 = .ok (.getfield 64, 3) := by decide +kernel
theorem dX7_takeNumber_58 : decode cX7_takeNumber 58 = .ok (.if_icmp .ge 70, 3) := by decide +kernel
theorem dX7_takeNumber_61 : decode cX7_takeNumber 61 = .ok (.aload_n 0, 1) := by decide +kernel
theorem dX7_takeNumber_62 : decode cX7_takeNumber 62 = .ok (.getfield 36, 3) := by decide +kernel
theorem dX7_takeNumber_65 : decode cX7_takeNumber 65 = .ok (.aload_n 0, 1) := by decide +kernel
theorem dX7_takeNumber_66 : decode cX7_takeNumber 66 = .ok (.getfield 70, 3) := by decide +kernel
theorem dX7_takeNumber_69 : decode cX7_takeNumber 69 = .ok (.iaload, 1) := by decide +kernel
theorem dX7_takeNumber_70 : decode cX7_takeNumber 70 = .ok (.i2l, 1) := by decide +kernel
theorem dX7_takeNumber_71 : decode cX7_takeNumber 71 = .ok (.ldc2_w 90, 3) := by decide +kernel
theorem dX7_takeNumber_74 : decode cX7_takeNumber 74 = .ok (.ldc2_w 92, 3) := by decide +kernel
theorem dX7_takeNumber_77 : decode cX7_takeNumber 77 = .ok (.invokestatic 59, 3) := by decide +kernel
theorem dX7_takeNumber_80 : decode cX7_takeNumber 80 = .ok (.ifCond .eq 48, 3) := by decide +kernel
theorem dX7_takeNumber_83 : decode cX7_takeNumber 83 = .ok (.iload 4, 2) := by decide +kernel
theorem dX7_takeNumber_85 : decode cX7_takeNumber 85 = .ok (.ldc 98, 2) := by decide +kernel
theorem dX7_takeNumber_87 : decode cX7_takeNumber 87 = .ok (.if_icmp .le 8, 3) := by decide +kernel
theorem dX7_takeNumber_90 : decode cX7_takeNumber 90 = .ok (.iload 4, 2) := by decide +kernel
theorem dX7_takeNumber_92 : decode cX7_takeNumber 92 = .ok (.goto 21, 3) := by decide +kernel
theorem dX7_takeNumber_95 : decode cX7_takeNumber 95 = .ok (.bipush 10, 2) := by decide +kernel
theorem dX7_takeNumber_97 : decode cX7_takeNumber 97 = .ok (.iload 4, 2) := by decide +kernel
theorem dX7_takeNumber_99 : decode cX7_takeNumber 99 = .ok (.imul, 1) := by decide +kernel
theorem dX7_takeNumber_100 : decode cX7_takeNumber 100 = .ok (.aload_n 0, 1) := by decide +kernel
theorem dX7_takeNumber_101 : decode cX7_takeNumber 101 = .ok (.getfield 36, 3) := by decide +kernel
theorem dX7_takeNumber_104 : decode cX7_takeNumber 104 = .ok (.aload_n 0, 1) := by decide +kernel
theorem dX7_takeNumber_105 : decode cX7_takeNumber 105 = .ok (.getfield 70, 3) := by decide +kernel
theorem dX7_takeNumber_108 : decode cX7_takeNumber 108 = .ok (.iaload, 1) := by decide +kernel
theorem dX7_takeNumber_109 : decode cX7_takeNumber 109 = .ok (.iadd, 1) := by decide +kernel
theorem dX7_takeNumber_110 : decode cX7_takeNumber 110 = .ok (.bipush 48, 2) := by decide +kernel
theorem dX7_takeNumber_112 : decode cX7_takeNumber 112 = .ok (.isub, 1) := by decide +kernel
theorem dX7_takeNumber_113 : decode cX7_takeNumber 113 = .ok (.istore 4, 2) := by decide +kernel
theorem dX7_takeNumber_115 : decode cX7_takeNumber 115 = .ok (.aload_n 0, 1) := by decide +kernel
theorem dX7_takeNumber_116 : decode cX7_takeNumber 116 = .ok (.dup, 1) := by decide +kernel
theorem dX7_takeNumber_117 : decode cX7_takeNumber 117 = .ok (.getfield 70, 3) := by decide +kernel
theorem dX7_takeNumber_120 : decode cX7_takeNumber 120 = .ok (.iconst 1, 1) := by decide +kernel
theorem dX7_takeNumber_121 : decode cX7_takeNumber 121 = .ok (.iadd, 1) := by decide +kernel
theorem dX7_takeNumber_122 : decode cX7_takeNumber 122 = .ok (.putfield 70, 3) := by decide +kernel
theorem dX7_takeNumber_125 : decode cX7_takeNumber 125 = .ok (.goto (-75), 3) := by decide +kernel
theorem dX7_takeNumber_128 : decode cX7_takeNumber 128 = .ok (.aload_n 0, 1) := by decide +kernel
theorem dX7_takeNumber_129 : decode cX7_takeNumber 129 = .ok (.aload_n 0, 1) := by decide +kernel
theorem dX7_takeNumber_130 : decode cX7_takeNumber 130 = .ok (.getfield 70, 3) := by decide +kernel
theorem dX7_takeNumber_133 : decode cX7_takeNumber 133 = .ok (.aload_n 0, 1) := by decide +kernel
theorem dX7_takeNumber_134 : decode cX7_takeNumber 134 = .ok (.getfield 80, 3) := by decide +kernel
theorem dX7_takeNumber_137 : decode cX7_takeNumber 137 = .ok (.isub, 1) := by decide +kernel
theorem dX7_takeNumber_138 : decode cX7_takeNumber 138 = .ok (.iconst 4, 1) := by decide +kernel
theorem dX7_takeNumber_139 : decode cX7_takeNumber 139 = .ok (.if_icmp .ge 20, 3) := by decide +kernel
theorem dX7_takeNumber_142 : decode cX7_takeNumber 142 = .ok (.iload 4, 2) := by decide +kernel
theorem dX7_takeNumber_144 : decode cX7_takeNumber 144 = .ok (.i2l, 1) := by decide +kernel
theorem dX7_takeNumber_145 : decode cX7_takeNumber 145 = .ok (.iload_n 1, 1) := by decide +kernel
theorem dX7_takeNumber_146 : decode cX7_takeNumber 146 = .ok (.i2l, 1) := by decide +kernel
theorem dX7_takeNumber_147 : decode cX7_takeNumber 147 = .ok (.iload_n 2, 1) := by decide +kernel
theorem dX7_takeNumber_148 : decode cX7_takeNumber 148 = .ok (.i2l, 1) := by decide +kernel
theorem dX7_takeNumber_149 : decode cX7_takeNumber 149 = .ok (.invokestatic 59, 3) := by decide +kernel
theorem dX7_takeNumber_152 : decode cX7_takeNumber 152 = .ok (.ifCond .eq 7, 3) := by decide +kernel
theorem dX7_takeNumber_155 : decode cX7_takeNumber 155 = .ok (.iconst 1, 1) := by decide +kernel
theorem dX7_takeNumber_156 : decode cX7_takeNumber 156 = .ok (.goto 4, 3) := by decide +kernel
theorem dX7_takeNumber_159 : decode cX7_takeNumber 159 = .ok (.iconst 0, 1) := by decide +kernel
theorem dX7_takeNumber_160 : decode cX7_takeNumber 160 = .ok (.iconst 2, 1) := by decide +kernel
theorem dX7_takeNumber_161 : decode cX7_takeNumber 161 = .ok (.aload_n 0, 1) := by decide +kernel
theorem dX7_takeNumber_162 : decode cX7_takeNumber 162 = .ok (.getfield 80, 3) := by decide +kernel
theorem dX7_takeNumber_165 : decode cX7_takeNumber 165 = .ok (.invokevirtual 94, 3) := by decide +kernel
theorem dX7_takeNumber_168 : decode cX7_takeNumber 168 = .ok (.istore 5, 2) := by decide +kernel
theorem dX7_takeNumber_170 : decode cX7_takeNumber 170 = .ok (.iload 4, 2) := by decide +kernel
theorem dX7_takeNumber_172 : decode cX7_takeNumber 172 = .ok (.ireturn, 1) := by decide +kernel
theorem dX7_kindHere_0 : decode cX7_kindHere 0 = .ok (.aload_n 0, 1) := by decide +kernel
theorem dX7_kindHere_1 : decode cX7_kindHere 1 = .ok (.bipush 6, 2) := by decide +kernel
theorem dX7_kindHere_3 : decode cX7_kindHere 3 = .ok (.bipush 115, 2) := by decide +kernel
theorem dX7_kindHere_5 : decode cX7_kindHere 5 = .ok (.bipush 105, 2) := by decide +kernel
theorem dX7_kindHere_7 : decode cX7_kindHere 7 = .ok (.bipush 108, 2) := by decide +kernel
theorem dX7_kindHere_9 : decode cX7_kindHere 9 = .ok (.bipush 101, 2) := by decide +kernel
theorem dX7_kindHere_11 : decode cX7_kindHere 11 = .ok (.bipush 110, 2) := by decide +kernel
theorem dX7_kindHere_13 : decode cX7_kindHere 13 = .ok (.bipush 116, 2) := by decide +kernel
theorem dX7_kindHere_15 : decode cX7_kindHere 15 = .ok (.iconst 0, 1) := by decide +kernel
theorem dX7_kindHere_16 : decode cX7_kindHere 16 = .ok (.invokevirtual 99, 3) := by decide +kernel
theorem dX7_kindHere_19 : decode cX7_kindHere 19 = .ok (.ifCond .eq 7, 3) := by decide +kernel
theorem dX7_kindHere_22 : decode cX7_kindHere 22 = .ok (.iconst 0, 1) := by decide +kernel
theorem dX7_kindHere_23 : decode cX7_kindHere 23 = .ok (.goto 79, 3) := by decide +kernel
theorem dX7_kindHere_26 : decode cX7_kindHere 26 = .ok (.aload_n 0, 1) := by decide +kernel
theorem dX7_kindHere_27 : decode cX7_kindHere 27 = .ok (.iconst 5, 1) := by decide +kernel
theorem dX7_kindHere_28 : decode cX7_kindHere 28 = .ok (.bipush 97, 2) := by decide +kernel
theorem dX7_kindHere_30 : decode cX7_kindHere 30 = .ok (.bipush 108, 2) := by decide +kernel
theorem dX7_kindHere_32 : decode cX7_kindHere 32 = .ok (.bipush 111, 2) := by decide +kernel
theorem dX7_kindHere_34 : decode cX7_kindHere 34 = .ok (.bipush 117, 2) := by decide +kernel
theorem dX7_kindHere_36 : decode cX7_kindHere 36 = .ok (.bipush 100, 2) := by decide +kernel
theorem dX7_kindHere_38 : decode cX7_kindHere 38 = .ok (.iconst 0, 1) := by decide +kernel
theorem dX7_kindHere_39 : decode cX7_kindHere 39 = .ok (.iconst 0, 1) := by decide +kernel
theorem dX7_kindHere_40 : decode cX7_kindHere 40 = .ok (.invokevirtual 99, 3) := by decide +kernel
theorem dX7_kindHere_43 : decode cX7_kindHere 43 = .ok (.ifCond .eq 7, 3) := by decide +kernel
theorem dX7_kindHere_46 : decode cX7_kindHere 46 = .ok (.iconst 1, 1) := by decide +kernel
theorem dX7_kindHere_47 : decode cX7_kindHere 47 = .ok (.goto 55, 3) := by decide +kernel
theorem dX7_kindHere_50 : decode cX7_kindHere 50 = .ok (.aload_n 0, 1) := by decide +kernel
theorem dX7_kindHere_51 : decode cX7_kindHere 51 = .ok (.bipush 7, 2) := by decide +kernel
theorem dX7_kindHere_53 : decode cX7_kindHere 53 = .ok (.bipush 99, 2) := by decide +kernel
theorem dX7_kindHere_55 : decode cX7_kindHere 55 = .ok (.bipush 111, 2) := by decide +kernel
theorem dX7_kindHere_57 : decode cX7_kindHere 57 = .ok (.bipush 112, 2) := by decide +kernel
theorem dX7_kindHere_59 : decode cX7_kindHere 59 = .ok (.bipush 121, 2) := by decide +kernel
theorem dX7_kindHere_61 : decode cX7_kindHere 61 = .ok (.bipush 105, 2) := by decide +kernel
theorem dX7_kindHere_63 : decode cX7_kindHere 63 = .ok (.bipush 115, 2) := by decide +kernel
theorem dX7_kindHere_65 : decode cX7_kindHere 65 = .ok (.bipush 116, 2) := by decide +kernel
theorem dX7_kindHere_67 : decode cX7_kindHere 67 = .ok (.invokevirtual 99, 3) := by decide +kernel
theorem dX7_kindHere_70 : decode cX7_kindHere 70 = .ok (.ifCond .eq 7, 3) := by decide +kernel
theorem dX7_kindHere_73 : decode cX7_kindHere 73 = .ok (.iconst 2, 1) := by decide +kernel
theorem dX7_kindHere_74 : decode cX7_kindHere 74 = .ok (.goto 28, 3) := by decide +kernel
theorem dX7_kindHere_77 : decode cX7_kindHere 77 = .ok (.aload_n 0, 1) := by decide +kernel
theorem dX7_kindHere_78 : decode cX7_kindHere 78 = .ok (.iconst 5, 1) := by decide +kernel
theorem dX7_kindHere_79 : decode cX7_kindHere 79 = .ok (.bipush 116, 2) := by decide +kernel
theorem dX7_kindHere_81 : decode cX7_kindHere 81 = .ok (.bipush 104, 2) := by decide +kernel
theorem dX7_kindHere_83 : decode cX7_kindHere 83 = .ok (.bipush 105, 2) := by decide +kernel
theorem dX7_kindHere_85 : decode cX7_kindHere 85 = .ok (.bipush 101, 2) := by decide +kernel
theorem dX7_kindHere_87 : decode cX7_kindHere 87 = .ok (.bipush 102, 2) := by decide +kernel
theorem dX7_kindHere_89 : decode cX7_kindHere 89 = .ok (.iconst 0, 1) := by decide +kernel
theorem dX7_kindHere_90 : decode cX7_kindHere 90 = .ok (.iconst 0, 1) := by decide +kernel
theorem dX7_kindHere_91 : decode cX7_kindHere 91 = .ok (.invokevirtual 99, 3) := by decide +kernel
theorem dX7_kindHere_94 : decode cX7_kindHere 94 = .ok (.ifCond .eq 7, 3) := by decide +kernel
theorem dX7_kindHere_97 : decode cX7_kindHere 97 = .ok (.iconst 3, 1) := by decide +kernel
theorem dX7_kindHere_98 : decode cX7_kindHere 98 = .ok (.goto 4, 3) := by decide +kernel
theorem dX7_kindHere_101 : decode cX7_kindHere 101 = .ok (.iconst (-1), 1) := by decide +kernel
theorem dX7_kindHere_102 : decode cX7_kindHere 102 = .ok (.istore_n 1, 1) := by decide +kernel
theorem dX7_kindHere_103 : decode cX7_kindHere 103 = .ok (.aload_n 0, 1) := by decide +kernel
theorem dX7_kindHere_104 : decode cX7_kindHere 104 = .ok (.bipush 7, 2) := by decide +kernel
theorem dX7_kindHere_106 : decode cX7_kindHere 106 = .ok (.bipush 116, 2) := by decide +kernel
theorem dX7_kindHere_108 : decode cX7_kindHere 108 = .ok (.bipush 101, 2) := by decide +kernel
theorem dX7_kindHere_110 : decode cX7_kindHere 110 = .ok (.bipush 97, 2) := by decide +kernel
theorem dX7_kindHere_112 : decode cX7_kindHere 112 = .ok (.bipush 99, 2) := by decide +kernel
theorem dX7_kindHere_114 : decode cX7_kindHere 114 = .ok (.bipush 104, 2) := by decide +kernel
theorem dX7_kindHere_116 : decode cX7_kindHere 116 = .ok (.bipush 101, 2) := by decide +kernel
theorem dX7_kindHere_118 : decode cX7_kindHere 118 = .ok (.bipush 114, 2) := by decide +kernel
theorem dX7_kindHere_120 : decode cX7_kindHere 120 = .ok (.invokevirtual 99, 3) := by decide +kernel
theorem dX7_kindHere_123 : decode cX7_kindHere 123 = .ok (.ifCond .eq 7, 3) := by decide +kernel
theorem dX7_kindHere_126 : decode cX7_kindHere 126 = .ok (.iconst 4, 1) := by decide +kernel
theorem dX7_kindHere_127 : decode cX7_kindHere 127 = .ok (.goto 4, 3) := by decide +kernel
theorem dX7_kindHere_130 : decode cX7_kindHere 130 = .ok (.iload_n 1, 1) := by decide +kernel
theorem dX7_kindHere_131 : decode cX7_kindHere 131 = .ok (.ireturn, 1) := by decide +kernel
theorem dX7_takeClause_0 : decode cX7_takeClause 0 = .ok (.aload_n 0, 1) := by decide +kernel
theorem dX7_takeClause_1 : decode cX7_takeClause 1 = .ok (.invokevirtual 103, 3) := by decide +kernel
theorem dX7_takeClause_4 : decode cX7_takeClause 4 = .ok (.aload_n 0, 1) := by decide +kernel
theorem dX7_takeClause_5 : decode cX7_takeClause 5 = .ok (.getfield 80, 3) := by decide +kernel
theorem dX7_takeClause_8 : decode cX7_takeClause 8 = .ok (.istore_n 1, 1) := by decide +kernel
theorem dX7_takeClause_9 : decode cX7_takeClause 9 = .ok (.aload_n 0, 1) := by decide +kernel
theorem dX7_takeClause_10 : decode cX7_takeClause 10 = .ok (.iconst 4, 1) := by decide +kernel
theorem dX7_takeClause_11 : decode cX7_takeClause 11 = .ok (.bipush 108, 2) := by decide +kernel
theorem dX7_takeClause_13 : decode cX7_takeClause 13 = .ok (.bipush 105, 2) := by decide +kernel
theorem dX7_takeClause_15 : decode cX7_takeClause 15 = .ok (.bipush 110, 2) := by decide +kernel
theorem dX7_takeClause_17 : decode cX7_takeClause 17 = .ok (.bipush 101, 2) := by decide +kernel
theorem dX7_takeClause_19 : decode cX7_takeClause 19 = .ok (.iconst 0, 1) := by decide +kernel
theorem dX7_takeClause_20 : decode cX7_takeClause 20 = .ok (.iconst 0, 1) := by decide +kernel
theorem dX7_takeClause_21 : decode cX7_takeClause 21 = .ok (.iconst 0, 1) := by decide +kernel
theorem dX7_takeClause_22 : decode cX7_takeClause 22 = .ok (.invokevirtual 99, 3) := by decide +kernel
theorem dX7_takeClause_25 : decode cX7_takeClause 25 = .ok (.ifCond .eq 83, 3) := by decide +kernel
theorem dX7_takeClause_28 : decode cX7_takeClause 28 = .ok (.aload_n 0, 1) := by decide +kernel
theorem dX7_takeClause_29 : decode cX7_takeClause 29 = .ok (.aload_n 0, 1) := by decide +kernel
theorem dX7_takeClause_30 : decode cX7_takeClause 30 = .ok (.getfield 29, 3) := by decide +kernel
theorem dX7_takeClause_33 : decode cX7_takeClause 33 = .ok (.iconst 2, 1) := by decide +kernel
theorem dX7_takeClause_34 : decode cX7_takeClause 34 = .ok (.iaload, 1) := by decide +kernel
theorem dX7_takeClause_35 : decode cX7_takeClause 35 = .ok (.bipush 16, 2) := by decide +kernel
theorem dX7_takeClause_37 : decode cX7_takeClause 37 = .ok (.if_icmp .ge 7, 3) := by decide +kernel
theorem dX7_takeClause_40 : decode cX7_takeClause 40 = .ok (.iconst 1, 1) := by decide +kernel
theorem dX7_takeClause_41 : decode cX7_takeClause 41 = .ok (.goto 4, 3) := by decide +kernel
theorem dX7_takeClause_44 : decode cX7_takeClause 44 = .ok (.iconst 0, 1) := by decide +kernel
theorem dX7_takeClause_45 : decode cX7_takeClause 45 = .ok (.iconst 3, 1) := by decide +kernel
theorem dX7_takeClause_46 : decode cX7_takeClause 46 = .ok (.iload_n 1, 1) := by decide +kernel
theorem dX7_takeClause_47 : decode cX7_takeClause 47 = .ok (.invokevirtual 94, 3) := by decide +kernel
theorem dX7_takeClause_50 : decode cX7_takeClause 50 = .ok (.ifCond .eq 258, 3) := by decide +kernel
theorem dX7_takeClause_53 : decode cX7_takeClause 53 = .ok (.aload_n 0, 1) := by decide +kernel
theorem dX7_takeClause_54 : decode cX7_takeClause 54 = .ok (.getfield 17, 3) := by decide +kernel
theorem dX7_takeClause_57 : decode cX7_takeClause 57 = .ok (.bipush 16, 2) := by decide +kernel
theorem dX7_takeClause_59 : decode cX7_takeClause 59 = .ok (.aload_n 0, 1) := by decide +kernel
theorem dX7_takeClause_60 : decode cX7_takeClause 60 = .ok (.getfield 29, 3) := by decide +kernel
theorem dX7_takeClause_63 : decode cX7_takeClause 63 = .ok (.iconst 2, 1) := by decide +kernel
theorem dX7_takeClause_64 : decode cX7_takeClause 64 = .ok (.iaload, 1) := by decide +kernel
theorem dX7_takeClause_65 : decode cX7_takeClause 65 = .ok (.iadd, 1) := by decide +kernel
theorem dX7_takeClause_66 : decode cX7_takeClause 66 = .ok (.aload_n 0, 1) := by decide +kernel
theorem dX7_takeClause_67 : decode cX7_takeClause 67 = .ok (.iconst 0, 1) := by decide +kernel
theorem dX7_takeClause_68 : decode cX7_takeClause 68 = .ok (.bipush 99, 2) := by decide +kernel
theorem dX7_takeClause_70 : decode cX7_takeClause 70 = .ok (.invokevirtual 106, 3) := by decide +kernel
theorem dX7_takeClause_73 : decode cX7_takeClause 73 = .ok (.iastore, 1) := by decide +kernel
theorem dX7_takeClause_74 : decode cX7_takeClause 74 = .ok (.aload_n 0, 1) := by decide +kernel
theorem dX7_takeClause_75 : decode cX7_takeClause 75 = .ok (.getfield 20, 3) := by decide +kernel
theorem dX7_takeClause_78 : decode cX7_takeClause 78 = .ok (.bipush 16, 2) := by decide +kernel
theorem dX7_takeClause_80 : decode cX7_takeClause 80 = .ok (.aload_n 0, 1) := by decide +kernel
theorem dX7_takeClause_81 : decode cX7_takeClause 81 = .ok (.getfield 29, 3) := by decide +kernel
theorem dX7_takeClause_84 : decode cX7_takeClause 84 = .ok (.iconst 2, 1) := by decide +kernel
theorem dX7_takeClause_85 : decode cX7_takeClause 85 = .ok (.iaload, 1) := by decide +kernel
theorem dX7_takeClause_86 : decode cX7_takeClause 86 = .ok (.iadd, 1) := by decide +kernel
theorem dX7_takeClause_87 : decode cX7_takeClause 87 = .ok (.aload_n 0, 1) := by decide +kernel
theorem dX7_takeClause_88 : decode cX7_takeClause 88 = .ok (.iconst 0, 1) := by decide +kernel
theorem dX7_takeClause_89 : decode cX7_takeClause 89 = .ok (.bipush 9, 2) := by decide +kernel
theorem dX7_takeClause_91 : decode cX7_takeClause 91 = .ok (.invokevirtual 106, 3) := by decide +kernel
theorem dX7_takeClause_94 : decode cX7_takeClause 94 = .ok (.iastore, 1) := by decide +kernel
theorem dX7_takeClause_95 : decode cX7_takeClause 95 = .ok (.aload_n 0, 1) := by decide +kernel
theorem dX7_takeClause_96 : decode cX7_takeClause 96 = .ok (.getfield 29, 3) := by decide +kernel
theorem dX7_takeClause_99 : decode cX7_takeClause 99 = .ok (.iconst 2, 1) := by decide +kernel
theorem dX7_takeClause_100 : decode cX7_takeClause 100 = .ok (.dup2, 1) := by decide +kernel
theorem dX7_takeClause_101 : decode cX7_takeClause 101 = .ok (.iaload, 1) := by decide +kernel
theorem dX7_takeClause_102 : decode cX7_takeClause 102 = .ok (.iconst 1, 1) := by decide +kernel
theorem dX7_takeClause_103 : decode cX7_takeClause 103 = .ok (.iadd, 1) := by decide +kernel
theorem dX7_takeClause_104 : decode cX7_takeClause 104 = .ok (.iastore, 1) := by decide +kernel
theorem dX7_takeClause_105 : decode cX7_takeClause 105 = .ok (.goto 203, 3) := by decide +kernel
theorem dX7_takeClause_108 : decode cX7_takeClause 108 = .ok (.aload_n 0, 1) := by decide +kernel
theorem dX7_takeClause_109 : decode cX7_takeClause 109 = .ok (.bipush 6, 2) := by decide +kernel
theorem dX7_takeClause_111 : decode cX7_takeClause 111 = .ok (.bipush 114, 2) := by decide +kernel
theorem dX7_takeClause_113 : decode cX7_takeClause 113 = .ok (.bipush 101, 2) := by decide +kernel
theorem dX7_takeClause_115 : decode cX7_takeClause 115 = .ok (.bipush 97, 2) := by decide +kernel
theorem dX7_takeClause_117 : decode cX7_takeClause 117 = .ok (.bipush 100, 2) := by decide +kernel
theorem dX7_takeClause_119 : decode cX7_takeClause 119 = .ok (.bipush 101, 2) := by decide +kernel
theorem dX7_takeClause_121 : decode cX7_takeClause 121 = .ok (.bipush 114, 2) := by decide +kernel
theorem dX7_takeClause_123 : decode cX7_takeClause 123 = .ok (.iconst 0, 1) := by decide +kernel
theorem dX7_takeClause_124 : decode cX7_takeClause 124 = .ok (.invokevirtual 99, 3) := by decide +kernel
theorem dX7_takeClause_127 : decode cX7_takeClause 127 = .ok (.ifCond .eq 118, 3) := by decide +kernel
theorem dX7_takeClause_130 : decode cX7_takeClause 130 = .ok (.aload_n 0, 1) := by decide +kernel
theorem dX7_takeClause_131 : decode cX7_takeClause 131 = .ok (.aload_n 0, 1) := by decide +kernel
theorem dX7_takeClause_132 : decode cX7_takeClause 132 = .ok (.getfield 29, 3) := by decide +kernel
theorem dX7_takeClause_135 : decode cX7_takeClause 135 = .ok (.iconst 3, 1) := by decide +kernel
theorem dX7_takeClause_136 : decode cX7_takeClause 136 = .ok (.iaload, 1) := by decide +kernel
theorem dX7_takeClause_137 : decode cX7_takeClause 137 = .ok (.bipush 8, 2) := by decide +kernel
theorem dX7_takeClause_139 : decode cX7_takeClause 139 = .ok (.if_icmp .ge 7, 3) := by decide +kernel
theorem dX7_takeClause_142 : decode cX7_takeClause 142 = .ok (.iconst 1, 1) := by decide +kernel
theorem dX7_takeClause_143 : decode cX7_takeClause 143 = .ok (.goto 4, 3) := by decide +kernel
theorem dX7_takeClause_146 : decode cX7_takeClause 146 = .ok (.iconst 0, 1) := by decide +kernel
theorem dX7_takeClause_147 : decode cX7_takeClause 147 = .ok (.iconst 3, 1) := by decide +kernel
theorem dX7_takeClause_148 : decode cX7_takeClause 148 = .ok (.iload_n 1, 1) := by decide +kernel
theorem dX7_takeClause_149 : decode cX7_takeClause 149 = .ok (.invokevirtual 94, 3) := by decide +kernel
theorem dX7_takeClause_152 : decode cX7_takeClause 152 = .ok (.ifCond .eq 156, 3) := by decide +kernel
theorem dX7_takeClause_155 : decode cX7_takeClause 155 = .ok (.aload_n 0, 1) := by decide +kernel
theorem dX7_takeClause_156 : decode cX7_takeClause 156 = .ok (.invokevirtual 103, 3) := by decide +kernel
theorem dX7_takeClause_159 : decode cX7_takeClause 159 = .ok (.aload_n 0, 1) := by decide +kernel
theorem dX7_takeClause_160 : decode cX7_takeClause 160 = .ok (.getfield 23, 3) := by decide +kernel
theorem dX7_takeClause_163 : decode cX7_takeClause 163 = .ok (.bipush 8, 2) := by decide +kernel
theorem dX7_takeClause_165 : decode cX7_takeClause 165 = .ok (.aload_n 0, 1) := by decide +kernel
theorem dX7_takeClause_166 : decode cX7_takeClause 166 = .ok (.getfield 29, 3) := by decide +kernel
theorem dX7_takeClause_169 : decode cX7_takeClause 169 = .ok (.iconst 3, 1) := by decide +kernel
theorem dX7_takeClause_170 : decode cX7_takeClause 170 = .ok (.iaload, 1) := by decide +kernel
theorem dX7_takeClause_171 : decode cX7_takeClause 171 = .ok (.iadd, 1) := by decide +kernel
theorem dX7_takeClause_172 : decode cX7_takeClause 172 = .ok (.aload_n 0, 1) := by decide +kernel
theorem dX7_takeClause_173 : decode cX7_takeClause 173 = .ok (.invokevirtual 110, 3) := by decide +kernel
theorem dX7_takeClause_176 : decode cX7_takeClause 176 = .ok (.iastore, 1) := by decide +kernel
theorem dX7_takeClause_177 : decode cX7_takeClause 177 = .ok (.aload_n 0, 1) := by decide +kernel
theorem dX7_takeClause_178 : decode cX7_takeClause 178 = .ok (.aload_n 0, 1) := by decide +kernel
theorem dX7_takeClause_179 : decode cX7_takeClause 179 = .ok (.getfield 23, 3) := by decide +kernel
theorem dX7_takeClause_182 : decode cX7_takeClause 182 = .ok (.bipush 8, 2) := by decide +kernel
theorem dX7_takeClause_184 : decode cX7_takeClause 184 = .ok (.aload_n 0, 1) := by decide +kernel
theorem dX7_takeClause_185 : decode cX7_takeClause 185 = .ok (.getfield 29, 3) := by decide +kernel
theorem dX7_takeClause_188 : decode cX7_takeClause 188 = .ok (.iconst 3, 1) := by decide +kernel
theorem dX7_takeClause_189 : decode cX7_takeClause 189 = .ok (.iaload, 1) := by decide +kernel
theorem dX7_takeClause_190 : decode cX7_takeClause 190 = .ok (.iadd, 1) := by decide +kernel
theorem dX7_takeClause_191 : decode cX7_takeClause 191 = .ok (.iaload, 1) := by decide +kernel
theorem dX7_takeClause_192 : decode cX7_takeClause 192 = .ok (.ifCond .lt 7, 3) := by decide +kernel
theorem dX7_takeClause_195 : decode cX7_takeClause 195 = .ok (.iconst 1, 1) := by decide +kernel
theorem dX7_takeClause_196 : decode cX7_takeClause 196 = .ok (.goto 4, 3) := by decide +kernel
theorem dX7_takeClause_199 : decode cX7_takeClause 199 = .ok (.iconst 0, 1) := by decide +kernel
theorem dX7_takeClause_200 : decode cX7_takeClause 200 = .ok (.iconst 1, 1) := by decide +kernel
theorem dX7_takeClause_201 : decode cX7_takeClause 201 = .ok (.aload_n 0, 1) := by decide +kernel
theorem dX7_takeClause_202 : decode cX7_takeClause 202 = .ok (.getfield 80, 3) := by decide +kernel
theorem dX7_takeClause_205 : decode cX7_takeClause 205 = .ok (.invokevirtual 94, 3) := by decide +kernel
theorem dX7_takeClause_208 : decode cX7_takeClause 208 = .ok (.ifCond .eq 100, 3) := by decide +kernel
theorem dX7_takeClause_211 : decode cX7_takeClause 211 = .ok (.aload_n 0, 1) := by decide +kernel
theorem dX7_takeClause_212 : decode cX7_takeClause 212 = .ok (.getfield 26, 3) := by decide +kernel
theorem dX7_takeClause_215 : decode cX7_takeClause 215 = .ok (.bipush 8, 2) := by decide +kernel
theorem dX7_takeClause_217 : decode cX7_takeClause 217 = .ok (.aload_n 0, 1) := by decide +kernel
theorem dX7_takeClause_218 : decode cX7_takeClause 218 = .ok (.getfield 29, 3) := by decide +kernel
theorem dX7_takeClause_221 : decode cX7_takeClause 221 = .ok (.iconst 3, 1) := by decide +kernel
theorem dX7_takeClause_222 : decode cX7_takeClause 222 = .ok (.iaload, 1) := by decide +kernel
theorem dX7_takeClause_223 : decode cX7_takeClause 223 = .ok (.iadd, 1) := by decide +kernel
theorem dX7_takeClause_224 : decode cX7_takeClause 224 = .ok (.aload_n 0, 1) := by decide +kernel
theorem dX7_takeClause_225 : decode cX7_takeClause 225 = .ok (.iconst 1, 1) := by decide +kernel
theorem dX7_takeClause_226 : decode cX7_takeClause 226 = .ok (.bipush 99, 2) := by decide +kernel
theorem dX7_takeClause_228 : decode cX7_takeClause 228 = .ok (.invokevirtual 106, 3) := by decide +kernel
theorem dX7_takeClause_231 : decode cX7_takeClause 231 = .ok (.iastore, 1) := by decide +kernel
theorem dX7_takeClause_232 : decode cX7_takeClause 232 = .ok (.aload_n 0, 1) := by decide +kernel
theorem dX7_takeClause_233 : decode cX7_takeClause 233 = .ok (.getfield 29, 3) := by decide +kernel
theorem dX7_takeClause_236 : decode cX7_takeClause 236 = .ok (.iconst 3, 1) := by decide +kernel
theorem dX7_takeClause_237 : decode cX7_takeClause 237 = .ok (.dup2, 1) := by decide +kernel
theorem dX7_takeClause_238 : decode cX7_takeClause 238 = .ok (.iaload, 1) := by decide +kernel
theorem dX7_takeClause_239 : decode cX7_takeClause 239 = .ok (.iconst 1, 1) := by decide +kernel
theorem dX7_takeClause_240 : decode cX7_takeClause 240 = .ok (.iadd, 1) := by decide +kernel
theorem dX7_takeClause_241 : decode cX7_takeClause 241 = .ok (.iastore, 1) := by decide +kernel
theorem dX7_takeClause_242 : decode cX7_takeClause 242 = .ok (.goto 66, 3) := by decide +kernel
theorem dX7_takeClause_245 : decode cX7_takeClause 245 = .ok (.aload_n 0, 1) := by decide +kernel
theorem dX7_takeClause_246 : decode cX7_takeClause 246 = .ok (.aload_n 0, 1) := by decide +kernel
theorem dX7_takeClause_247 : decode cX7_takeClause 247 = .ok (.iconst 5, 1) := by decide +kernel
theorem dX7_takeClause_248 : decode cX7_takeClause 248 = .ok (.bipush 101, 2) := by decide +kernel
theorem dX7_takeClause_250 : decode cX7_takeClause 250 = .ok (.bipush 114, 2) := by decide +kernel
theorem dX7_takeClause_252 : decode cX7_takeClause 252 = .ok (.bipush 114, 2) := by decide +kernel
theorem dX7_takeClause_254 : decode cX7_takeClause 254 = .ok (.bipush 111, 2) := by decide +kernel
theorem dX7_takeClause_256 : decode cX7_takeClause 256 = .ok (.bipush 114, 2) := by decide +kernel
theorem dX7_takeClause_258 : decode cX7_takeClause 258 = .ok (.iconst 0, 1) := by decide +kernel
theorem dX7_takeClause_259 : decode cX7_takeClause 259 = .ok (.iconst 0, 1) := by decide +kernel
theorem dX7_takeClause_260 : decode cX7_takeClause 260 = .ok (.invokevirtual 99, 3) := by decide +kernel
theorem dX7_takeClause_263 : decode cX7_takeClause 263 = .ok (.iconst 1, 1) := by decide +kernel
theorem dX7_takeClause_264 : decode cX7_takeClause 264 = .ok (.iload_n 1, 1) := by decide +kernel
theorem dX7_takeClause_265 : decode cX7_takeClause 265 = .ok (.invokevirtual 94, 3) := by decide +kernel
theorem dX7_takeClause_268 : decode cX7_takeClause 268 = .ok (.ifCond .eq 40, 3) := by decide +kernel
theorem dX7_takeClause_271 : decode cX7_takeClause 271 = .ok (.aload_n 0, 1) := by decide +kernel
theorem dX7_takeClause_272 : decode cX7_takeClause 272 = .ok (.aload_n 0, 1) := by decide +kernel
theorem dX7_takeClause_273 : decode cX7_takeClause 273 = .ok (.getfield 113, 3) := by decide +kernel
theorem dX7_takeClause_276 : decode cX7_takeClause 276 = .ok (.ifCond .ne 7, 3) := by decide +kernel
theorem dX7_takeClause_279 : decode cX7_takeClause 279 = .ok (.iconst 1, 1) := by decide +kernel
theorem dX7_takeClause_280 : decode cX7_takeClause 280 = .ok (.goto 4, 3) := by decide +kernel
theorem dX7_takeClause_283 : decode cX7_takeClause 283 = .ok (.iconst 0, 1) := by decide +kernel
theorem dX7_takeClause_284 : decode cX7_takeClause 284 = .ok (.iconst 3, 1) := by decide +kernel
theorem dX7_takeClause_285 : decode cX7_takeClause 285 = .ok (.iload_n 1, 1) := by decide +kernel
theorem dX7_takeClause_286 : decode cX7_takeClause 286 = .ok (.invokevirtual 94, 3) := by decide +kernel
theorem dX7_takeClause_289 : decode cX7_takeClause 289 = .ok (.ifCond .eq 19, 3) := by decide +kernel
theorem dX7_takeClause_292 : decode cX7_takeClause 292 = .ok (.aload_n 0, 1) := by decide +kernel
theorem dX7_takeClause_293 : decode cX7_takeClause 293 = .ok (.iconst 1, 1) := by decide +kernel
theorem dX7_takeClause_294 : decode cX7_takeClause 294 = .ok (.putfield 113, 3) := by decide +kernel
theorem dX7_takeClause_297 : decode cX7_takeClause 297 = .ok (.aload_n 0, 1) := by decide +kernel
theorem dX7_takeClause_298 : decode cX7_takeClause 298 = .ok (.aload_n 0, 1) := by decide +kernel
theorem dX7_takeClause_299 : decode cX7_takeClause 299 = .ok (.iconst 0, 1) := by decide +kernel
theorem dX7_takeClause_300 : decode cX7_takeClause 300 = .ok (.bipush 100, 2) := by decide +kernel
theorem dX7_takeClause_302 : decode cX7_takeClause 302 = .ok (.invokevirtual 106, 3) := by decide +kernel
theorem dX7_takeClause_305 : decode cX7_takeClause 305 = .ok (.putfield 117, 3) := by decide +kernel
theorem dX7_takeClause_308 : decode cX7_takeClause 308 = .ok (.aload_n 0, 1) := by decide +kernel
theorem dX7_takeClause_309 : decode cX7_takeClause 309 = .ok (.getfield 73, 3) := by decide +kernel
theorem dX7_takeClause_312 : decode cX7_takeClause 312 = .ok (.ifCond .ne 39, 3) := by decide +kernel
theorem dX7_takeClause_315 : decode cX7_takeClause 315 = .ok (.aload_n 0, 1) := by decide +kernel
theorem dX7_takeClause_316 : decode cX7_takeClause 316 = .ok (.aload_n 0, 1) := by decide +kernel
theorem dX7_takeClause_317 : decode cX7_takeClause 317 = .ok (.invokevirtual 76, 3) := by decide +kernel
theorem dX7_takeClause_320 : decode cX7_takeClause 320 = .ok (.bipush 59, 2) := by decide +kernel
theorem dX7_takeClause_322 : decode cX7_takeClause 322 = .ok (.if_icmp .ne 7, 3) := by decide +kernel
theorem dX7_takeClause_325 : decode cX7_takeClause 325 = .ok (.iconst 1, 1) := by decide +kernel
theorem dX7_takeClause_326 : decode cX7_takeClause 326 = .ok (.goto 4, 3) := by decide +kernel
theorem dX7_takeClause_329 : decode cX7_takeClause 329 = .ok (.iconst 0, 1) := by decide +kernel
theorem dX7_takeClause_330 : decode cX7_takeClause 330 = .ok (.iconst 1, 1) := by decide +kernel
theorem dX7_takeClause_331 : decode cX7_takeClause 331 = .ok (.aload_n 0, 1) := by decide +kernel
theorem dX7_takeClause_332 : decode cX7_takeClause 332 = .ok (.getfield 70, 3) := by decide +kernel
theorem dX7_takeClause_335 : decode cX7_takeClause 335 = .ok (.invokevirtual 94, 3) := by decide +kernel
theorem dX7_takeClause_338 : decode cX7_takeClause 338 = .ok (.ifCond .eq 13, 3) := by decide +kernel
theorem dX7_takeClause_341 : decode cX7_takeClause 341 = .ok (.aload_n 0, 1) := by decide +kernel
theorem dX7_takeClause_342 : decode cX7_takeClause 342 = .ok (.dup, 1) := by decide +kernel
theorem dX7_takeClause_343 : decode cX7_takeClause 343 = .ok (.getfield 70, 3) := by decide +kernel
theorem dX7_takeClause_346 : decode cX7_takeClause 346 = .ok (.iconst 1, 1) := by decide +kernel
theorem dX7_takeClause_347 : decode cX7_takeClause 347 = .ok (.iadd, 1) := by decide +kernel
theorem dX7_takeClause_348 : decode cX7_takeClause 348 = .ok (.putfield 70, 3) := by decide +kernel
theorem dX7_takeClause_351 : decode cX7_takeClause 351 = .ok (.return_, 1) := by decide +kernel
theorem dX7_library_0 : decode cX7_library 0 = .ok (.aload_n 0, 1) := by decide +kernel
theorem dX7_library_1 : decode cX7_library 1 = .ok (.iconst 0, 1) := by decide +kernel
theorem dX7_library_2 : decode cX7_library 2 = .ok (.putfield 70, 3) := by decide +kernel
theorem dX7_library_5 : decode cX7_library 5 = .ok (.aload_n 0, 1) := by decide +kernel
theorem dX7_library_6 : decode cX7_library 6 = .ok (.iconst 0, 1) := by decide +kernel
theorem dX7_library_7 : decode cX7_library 7 = .ok (.putfield 73, 3) := by decide +kernel
theorem dX7_library_10 : decode cX7_library 10 = .ok (.aload_n 0, 1) := by decide +kernel
theorem dX7_library_11 : decode cX7_library 11 = .ok (.iconst (-1), 1) := by decide +kernel
theorem dX7_library_12 : decode cX7_library 12 = .ok (.putfield 39, 3) := by decide +kernel
theorem dX7_library_15 : decode cX7_library 15 = .ok (.aload_n 0, 1) := by decide +kernel
theorem dX7_library_16 : decode cX7_library 16 = .ok (.getfield 29, 3) := by decide +kernel
theorem dX7_library_19 : decode cX7_library 19 = .ok (.iconst 2, 1) := by decide +kernel
theorem dX7_library_20 : decode cX7_library 20 = .ok (.iconst 0, 1) := by decide +kernel
theorem dX7_library_21 : decode cX7_library 21 = .ok (.iastore, 1) := by decide +kernel
theorem dX7_library_22 : decode cX7_library 22 = .ok (.aload_n 0, 1) := by decide +kernel
theorem dX7_library_23 : decode cX7_library 23 = .ok (.getfield 29, 3) := by decide +kernel
theorem dX7_library_26 : decode cX7_library 26 = .ok (.iconst 3, 1) := by decide +kernel
theorem dX7_library_27 : decode cX7_library 27 = .ok (.iconst 0, 1) := by decide +kernel
theorem dX7_library_28 : decode cX7_library 28 = .ok (.iastore, 1) := by decide +kernel
theorem dX7_library_29 : decode cX7_library 29 = .ok (.aload_n 0, 1) := by decide +kernel
theorem dX7_library_30 : decode cX7_library 30 = .ok (.bipush 10, 2) := by decide +kernel
theorem dX7_library_32 : decode cX7_library 32 = .ok (.putfield 117, 3) := by decide +kernel
theorem dX7_library_35 : decode cX7_library 35 = .ok (.aload_n 0, 1) := by decide +kernel
theorem dX7_library_36 : decode cX7_library 36 = .ok (.iconst 0, 1) := by decide +kernel
theorem dX7_library_37 : decode cX7_library 37 = .ok (.putfield 113, 3) := by decide +kernel
theorem dX7_library_40 : decode cX7_library 40 = .ok (.aload_n 0, 1) := by decide +kernel
theorem dX7_library_41 : decode cX7_library 41 = .ok (.getfield 73, 3) := by decide +kernel
theorem dX7_library_44 : decode cX7_library 44 = .ok (.ifCond .ne 17, 3) := by decide +kernel
theorem dX7_library_47 : decode cX7_library 47 = .ok (.aload_n 0, 1) := by decide +kernel
theorem dX7_library_48 : decode cX7_library 48 = .ok (.invokevirtual 76, 3) := by decide +kernel
theorem dX7_library_51 : decode cX7_library 51 = .ok (.ifCond .lt 10, 3) := by decide +kernel
theorem dX7_library_54 : decode cX7_library 54 = .ok (.aload_n 0, 1) := by decide +kernel
theorem dX7_library_55 : decode cX7_library 55 = .ok (.invokevirtual 120, 3) := by decide +kernel
theorem dX7_library_58 : decode cX7_library 58 = .ok (.goto (-18), 3) := by decide +kernel
theorem dX7_library_61 : decode cX7_library 61 = .ok (.aload_n 0, 1) := by decide +kernel
theorem dX7_library_62 : decode cX7_library 62 = .ok (.iconst 0, 1) := by decide +kernel
theorem dX7_library_63 : decode cX7_library 63 = .ok (.putfield 64, 3) := by decide +kernel
theorem dX7_library_66 : decode cX7_library 66 = .ok (.aload_n 0, 1) := by decide +kernel
theorem dX7_library_67 : decode cX7_library 67 = .ok (.getfield 73, 3) := by decide +kernel
theorem dX7_library_70 : decode cX7_library 70 = .ok (.ifCond .le 11, 3) := by decide +kernel
theorem dX7_library_73 : decode cX7_library 73 = .ok (.bipush (-10), 2) := by decide +kernel
theorem dX7_library_75 : decode cX7_library 75 = .ok (.aload_n 0, 1) := by decide +kernel
theorem dX7_library_76 : decode cX7_library 76 = .ok (.getfield 73, 3) := by decide +kernel
theorem dX7_library_79 : decode cX7_library 79 = .ok (.isub, 1) := by decide +kernel
theorem dX7_library_80 : decode cX7_library 80 = .ok (.ireturn, 1) := by decide +kernel
theorem dX7_library_81 : decode cX7_library 81 = .ok (.aload_n 0, 1) := by decide +kernel
theorem dX7_library_82 : decode cX7_library 82 = .ok (.getfield 29, 3) := by decide +kernel
theorem dX7_library_85 : decode cX7_library 85 = .ok (.iconst 0, 1) := by decide +kernel
theorem dX7_library_86 : decode cX7_library 86 = .ok (.aload_n 0, 1) := by decide +kernel
theorem dX7_library_87 : decode cX7_library 87 = .ok (.getfield 29, 3) := by decide +kernel
theorem dX7_library_90 : decode cX7_library 90 = .ok (.iconst 2, 1) := by decide +kernel
theorem dX7_library_91 : decode cX7_library 91 = .ok (.iaload, 1) := by decide +kernel
theorem dX7_library_92 : decode cX7_library 92 = .ok (.iastore, 1) := by decide +kernel
theorem dX7_library_93 : decode cX7_library 93 = .ok (.aload_n 0, 1) := by decide +kernel
theorem dX7_library_94 : decode cX7_library 94 = .ok (.getfield 29, 3) := by decide +kernel
theorem dX7_library_97 : decode cX7_library 97 = .ok (.iconst 1, 1) := by decide +kernel
theorem dX7_library_98 : decode cX7_library 98 = .ok (.aload_n 0, 1) := by decide +kernel
theorem dX7_library_99 : decode cX7_library 99 = .ok (.getfield 29, 3) := by decide +kernel
theorem dX7_library_102 : decode cX7_library 102 = .ok (.iconst 3, 1) := by decide +kernel
theorem dX7_library_103 : decode cX7_library 103 = .ok (.iaload, 1) := by decide +kernel
theorem dX7_library_104 : decode cX7_library 104 = .ok (.iastore, 1) := by decide +kernel
theorem dX7_library_105 : decode cX7_library 105 = .ok (.aload_n 0, 1) := by decide +kernel
theorem dX7_library_106 : decode cX7_library 106 = .ok (.aload_n 0, 1) := by decide +kernel
theorem dX7_library_107 : decode cX7_library 107 = .ok (.getfield 117, 3) := by decide +kernel
theorem dX7_library_110 : decode cX7_library 110 = .ok (.putfield 32, 3) := by decide +kernel
theorem dX7_library_113 : decode cX7_library 113 = .ok (.aload_n 0, 1) := by decide +kernel
theorem dX7_library_114 : decode cX7_library 114 = .ok (.getfield 7, 3) := by decide +kernel
theorem dX7_library_117 : decode cX7_library 117 = .ok (.sipush 1335, 3) := by decide +kernel
theorem dX7_library_120 : decode cX7_library 120 = .ok (.iaload, 1) := by decide +kernel
theorem dX7_library_121 : decode cX7_library 121 = .ok (.istore_n 1, 1) := by decide +kernel
theorem dX7_library_122 : decode cX7_library 122 = .ok (.iconst 0, 1) := by decide +kernel
theorem dX7_library_123 : decode cX7_library 123 = .ok (.istore_n 2, 1) := by decide +kernel
theorem dX7_library_124 : decode cX7_library 124 = .ok (.iload_n 2, 1) := by decide +kernel
theorem dX7_library_125 : decode cX7_library 125 = .ok (.sipush 1500, 3) := by decide +kernel
theorem dX7_library_128 : decode cX7_library 128 = .ok (.if_icmp .ge 48, 3) := by decide +kernel
theorem dX7_library_131 : decode cX7_library 131 = .ok (.aload_n 0, 1) := by decide +kernel
theorem dX7_library_132 : decode cX7_library 132 = .ok (.getfield 7, 3) := by decide +kernel
theorem dX7_library_135 : decode cX7_library 135 = .ok (.iload_n 2, 1) := by decide +kernel
theorem dX7_library_136 : decode cX7_library 136 = .ok (.iload_n 2, 1) := by decide +kernel
theorem dX7_library_137 : decode cX7_library 137 = .ok (.i2l, 1) := by decide +kernel
theorem dX7_library_138 : decode cX7_library 138 = .ok (.ldc2_w 123, 3) := by decide +kernel
theorem dX7_library_141 : decode cX7_library 141 = .ok (.ldc2_w 125, 3) := by decide +kernel
theorem dX7_library_144 : decode cX7_library 144 = .ok (.invokestatic 59, 3) := by decide +kernel
theorem dX7_library_147 : decode cX7_library 147 = .ok (.ifCond .ne 17, 3) := by decide +kernel
theorem dX7_library_150 : decode cX7_library 150 = .ok (.iload_n 2, 1) := by decide +kernel
theorem dX7_library_151 : decode cX7_library 151 = .ok (.i2l, 1) := by decide +kernel
theorem dX7_library_152 : decode cX7_library 152 = .ok (.ldc2_w 127, 3) := by decide +kernel
theorem dX7_library_155 : decode cX7_library 155 = .ok (.ldc2_w 129, 3) := by decide +kernel
theorem dX7_library_158 : decode cX7_library 158 = .ok (.invokestatic 59, 3) := by decide +kernel
theorem dX7_library_161 : decode cX7_library 161 = .ok (.ifCond .eq 7, 3) := by decide +kernel
theorem dX7_library_164 : decode cX7_library 164 = .ok (.iconst (-1), 1) := by decide +kernel
theorem dX7_library_165 : decode cX7_library 165 = .ok (.goto 4, 3) := by decide +kernel
theorem dX7_library_168 : decode cX7_library 168 = .ok (.iconst 0, 1) := by decide +kernel
theorem dX7_library_169 : decode cX7_library 169 = .ok (.iastore, 1) := by decide +kernel
theorem dX7_library_170 : decode cX7_library 170 = .ok (.iinc 2 1, 3) := by decide +kernel
theorem dX7_library_173 : decode cX7_library 173 = .ok (.goto (-49), 3) := by decide +kernel
theorem dX7_library_176 : decode cX7_library 176 = .ok (.aload_n 0, 1) := by decide +kernel
theorem dX7_library_177 : decode cX7_library 177 = .ok (.getfield 7, 3) := by decide +kernel
theorem dX7_library_180 : decode cX7_library 180 = .ok (.sipush 1335, 3) := by decide +kernel
theorem dX7_library_183 : decode cX7_library 183 = .ok (.iload_n 1, 1) := by decide +kernel
theorem dX7_library_184 : decode cX7_library 184 = .ok (.iastore, 1) := by decide +kernel
theorem dX7_library_185 : decode cX7_library 185 = .ok (.iconst 0, 1) := by decide +kernel
theorem dX7_library_186 : decode cX7_library 186 = .ok (.istore_n 2, 1) := by decide +kernel
theorem dX7_library_187 : decode cX7_library 187 = .ok (.iload_n 2, 1) := by decide +kernel
theorem dX7_library_188 : decode cX7_library 188 = .ok (.bipush 16, 2) := by decide +kernel
theorem dX7_library_190 : decode cX7_library 190 = .ok (.if_icmp .ge 49, 3) := by decide +kernel
theorem dX7_library_193 : decode cX7_library 193 = .ok (.aload_n 0, 1) := by decide +kernel
theorem dX7_library_194 : decode cX7_library 194 = .ok (.getfield 17, 3) := by decide +kernel
theorem dX7_library_197 : decode cX7_library 197 = .ok (.iload_n 2, 1) := by decide +kernel
theorem dX7_library_198 : decode cX7_library 198 = .ok (.aload_n 0, 1) := by decide +kernel
theorem dX7_library_199 : decode cX7_library 199 = .ok (.getfield 17, 3) := by decide +kernel
theorem dX7_library_202 : decode cX7_library 202 = .ok (.bipush 16, 2) := by decide +kernel
theorem dX7_library_204 : decode cX7_library 204 = .ok (.iload_n 2, 1) := by decide +kernel
theorem dX7_library_205 : decode cX7_library 205 = .ok (.iadd, 1) := by decide +kernel
theorem dX7_library_206 : decode cX7_library 206 = .ok (.iaload, 1) := by decide +kernel
theorem dX7_library_207 : decode cX7_library 207 = .ok (.iastore, 1) := by decide +kernel
theorem dX7_library_208 : decode cX7_library 208 = .ok (.aload_n 0, 1) := by decide +kernel
theorem dX7_library_209 : decode cX7_library 209 = .ok (.getfield 7, 3) := by decide +kernel
theorem dX7_library_212 : decode cX7_library 212 = .ok (.iload_n 2, 1) := by decide +kernel
theorem dX7_library_213 : decode cX7_library 213 = .ok (.iload_n 2, 1) := by decide +kernel
theorem dX7_library_214 : decode cX7_library 214 = .ok (.iastore, 1) := by decide +kernel
theorem dX7_library_215 : decode cX7_library 215 = .ok (.aload_n 0, 1) := by decide +kernel
theorem dX7_library_216 : decode cX7_library 216 = .ok (.getfield 7, 3) := by decide +kernel
theorem dX7_library_219 : decode cX7_library 219 = .ok (.bipush 80, 2) := by decide +kernel
theorem dX7_library_221 : decode cX7_library 221 = .ok (.iload_n 2, 1) := by decide +kernel
theorem dX7_library_222 : decode cX7_library 222 = .ok (.iadd, 1) := by decide +kernel
theorem dX7_library_223 : decode cX7_library 223 = .ok (.aload_n 0, 1) := by decide +kernel
theorem dX7_library_224 : decode cX7_library 224 = .ok (.getfield 20, 3) := by decide +kernel
theorem dX7_library_227 : decode cX7_library 227 = .ok (.bipush 16, 2) := by decide +kernel
theorem dX7_library_229 : decode cX7_library 229 = .ok (.iload_n 2, 1) := by decide +kernel
theorem dX7_library_230 : decode cX7_library 230 = .ok (.iadd, 1) := by decide +kernel
theorem dX7_library_231 : decode cX7_library 231 = .ok (.iaload, 1) := by decide +kernel
theorem dX7_library_232 : decode cX7_library 232 = .ok (.iastore, 1) := by decide +kernel
theorem dX7_library_233 : decode cX7_library 233 = .ok (.iinc 2 1, 3) := by decide +kernel
theorem dX7_library_236 : decode cX7_library 236 = .ok (.goto (-49), 3) := by decide +kernel
theorem dX7_library_239 : decode cX7_library 239 = .ok (.aload_n 0, 1) := by decide +kernel
theorem dX7_library_240 : decode cX7_library 240 = .ok (.getfield 7, 3) := by decide +kernel
theorem dX7_library_243 : decode cX7_library 243 = .ok (.sipush 1332, 3) := by decide +kernel
theorem dX7_library_246 : decode cX7_library 246 = .ok (.aload_n 0, 1) := by decide +kernel
theorem dX7_library_247 : decode cX7_library 247 = .ok (.getfield 29, 3) := by decide +kernel
theorem dX7_library_250 : decode cX7_library 250 = .ok (.iconst 0, 1) := by decide +kernel
theorem dX7_library_251 : decode cX7_library 251 = .ok (.iaload, 1) := by decide +kernel
theorem dX7_library_252 : decode cX7_library 252 = .ok (.iastore, 1) := by decide +kernel
theorem dX7_library_253 : decode cX7_library 253 = .ok (.iconst 0, 1) := by decide +kernel
theorem dX7_library_254 : decode cX7_library 254 = .ok (.istore_n 2, 1) := by decide +kernel
theorem dX7_library_255 : decode cX7_library 255 = .ok (.iload_n 2, 1) := by decide +kernel
theorem dX7_library_256 : decode cX7_library 256 = .ok (.bipush 8, 2) := by decide +kernel
theorem dX7_library_258 : decode cX7_library 258 = .ok (.if_icmp .ge 39, 3) := by decide +kernel
theorem dX7_library_261 : decode cX7_library 261 = .ok (.aload_n 0, 1) := by decide +kernel
theorem dX7_library_262 : decode cX7_library 262 = .ok (.getfield 23, 3) := by decide +kernel
theorem dX7_library_265 : decode cX7_library 265 = .ok (.iload_n 2, 1) := by decide +kernel
theorem dX7_library_266 : decode cX7_library 266 = .ok (.aload_n 0, 1) := by decide +kernel
theorem dX7_library_267 : decode cX7_library 267 = .ok (.getfield 23, 3) := by decide +kernel
theorem dX7_library_270 : decode cX7_library 270 = .ok (.bipush 8, 2) := by decide +kernel
theorem dX7_library_272 : decode cX7_library 272 = .ok (.iload_n 2, 1) := by decide +kernel
theorem dX7_library_273 : decode cX7_library 273 = .ok (.iadd, 1) := by decide +kernel
theorem dX7_library_274 : decode cX7_library 274 = .ok (.iaload, 1) := by decide +kernel
theorem dX7_library_275 : decode cX7_library 275 = .ok (.iastore, 1) := by decide +kernel
theorem dX7_library_276 : decode cX7_library 276 = .ok (.aload_n 0, 1) := by decide +kernel
theorem dX7_library_277 : decode cX7_library 277 = .ok (.getfield 26, 3) := by decide +kernel
theorem dX7_library_280 : decode cX7_library 280 = .ok (.iload_n 2, 1) := by decide +kernel
theorem dX7_library_281 : decode cX7_library 281 = .ok (.aload_n 0, 1) := by decide +kernel
theorem dX7_library_282 : decode cX7_library 282 = .ok (.getfield 26, 3) := by decide +kernel
theorem dX7_library_285 : decode cX7_library 285 = .ok (.bipush 8, 2) := by decide +kernel
theorem dX7_library_287 : decode cX7_library 287 = .ok (.iload_n 2, 1) := by decide +kernel
theorem dX7_library_288 : decode cX7_library 288 = .ok (.iadd, 1) := by decide +kernel
theorem dX7_library_289 : decode cX7_library 289 = .ok (.iaload, 1) := by decide +kernel
theorem dX7_library_290 : decode cX7_library 290 = .ok (.iastore, 1) := by decide +kernel
theorem dX7_library_291 : decode cX7_library 291 = .ok (.iinc 2 1, 3) := by decide +kernel
theorem dX7_library_294 : decode cX7_library 294 = .ok (.goto (-39), 3) := by decide +kernel
theorem dX7_library_297 : decode cX7_library 297 = .ok (.aload_n 0, 1) := by decide +kernel
theorem dX7_library_298 : decode cX7_library 298 = .ok (.iconst 0, 1) := by decide +kernel
theorem dX7_library_299 : decode cX7_library 299 = .ok (.putfield 131, 3) := by decide +kernel
theorem dX7_library_302 : decode cX7_library 302 = .ok (.aload_n 0, 1) := by decide +kernel
theorem dX7_library_303 : decode cX7_library 303 = .ok (.iconst 0, 1) := by decide +kernel
theorem dX7_library_304 : decode cX7_library 304 = .ok (.putfield 134, 3) := by decide +kernel
theorem dX7_library_307 : decode cX7_library 307 = .ok (.aload_n 0, 1) := by decide +kernel
theorem dX7_library_308 : decode cX7_library 308 = .ok (.getfield 13, 3) := by decide +kernel
theorem dX7_library_311 : decode cX7_library 311 = .ok (.iconst 0, 1) := by decide +kernel
theorem dX7_library_312 : decode cX7_library 312 = .ok (.iconst 0, 1) := by decide +kernel
theorem dX7_library_313 : decode cX7_library 313 = .ok (.bastore, 1) := by decide +kernel
theorem dX7_library_314 : decode cX7_library 314 = .ok (.aload_n 0, 1) := by decide +kernel
theorem dX7_library_315 : decode cX7_library 315 = .ok (.getfield 13, 3) := by decide +kernel
theorem dX7_library_318 : decode cX7_library 318 = .ok (.iconst 1, 1) := by decide +kernel
theorem dX7_library_319 : decode cX7_library 319 = .ok (.iconst 0, 1) := by decide +kernel
theorem dX7_library_320 : decode cX7_library 320 = .ok (.bastore, 1) := by decide +kernel
theorem dX7_library_321 : decode cX7_library 321 = .ok (.aload_n 0, 1) := by decide +kernel
theorem dX7_library_322 : decode cX7_library 322 = .ok (.getfield 29, 3) := by decide +kernel
theorem dX7_library_325 : decode cX7_library 325 = .ok (.iconst 0, 1) := by decide +kernel
theorem dX7_library_326 : decode cX7_library 326 = .ok (.iaload, 1) := by decide +kernel
theorem dX7_library_327 : decode cX7_library 327 = .ok (.ireturn, 1) := by decide +kernel
theorem dX7_fault_0 : decode cX7_fault 0 = .ok (.aload_n 0, 1) := by decide +kernel
theorem dX7_fault_1 : decode cX7_fault 1 = .ok (.getfield 39, 3) := by decide +kernel
theorem dX7_fault_4 : decode cX7_fault 4 = .ok (.ireturn, 1) := by decide +kernel
theorem dX7_isLine_0 : decode cX7_isLine 0 = .ok (.iload_n 1, 1) := by decide +kernel
theorem dX7_isLine_1 : decode cX7_isLine 1 = .ok (.i2l, 1) := by decide +kernel
theorem dX7_isLine_2 : decode cX7_isLine 2 = .ok (.lconst 0, 1) := by decide +kernel
theorem dX7_isLine_3 : decode cX7_isLine 3 = .ok (.aload_n 0, 1) := by decide +kernel
theorem dX7_isLine_4 : decode cX7_isLine 4 = .ok (.getfield 29, 3) := by decide +kernel
theorem dX7_isLine_7 : decode cX7_isLine 7 = .ok (.iconst 0, 1) := by decide +kernel
theorem dX7_isLine_8 : decode cX7_isLine 8 = .ok (.iaload, 1) := by decide +kernel
theorem dX7_isLine_9 : decode cX7_isLine 9 = .ok (.iconst 1, 1) := by decide +kernel
theorem dX7_isLine_10 : decode cX7_isLine 10 = .ok (.isub, 1) := by decide +kernel
theorem dX7_isLine_11 : decode cX7_isLine 11 = .ok (.i2l, 1) := by decide +kernel
theorem dX7_isLine_12 : decode cX7_isLine 12 = .ok (.invokestatic 59, 3) := by decide +kernel
theorem dX7_isLine_15 : decode cX7_isLine 15 = .ok (.ireturn, 1) := by decide +kernel
theorem dX7_isReader_0 : decode cX7_isReader 0 = .ok (.iload_n 1, 1) := by decide +kernel
theorem dX7_isReader_1 : decode cX7_isReader 1 = .ok (.i2l, 1) := by decide +kernel
theorem dX7_isReader_2 : decode cX7_isReader 2 = .ok (.lconst 0, 1) := by decide +kernel
theorem dX7_isReader_3 : decode cX7_isReader 3 = .ok (.aload_n 0, 1) := by decide +kernel
theorem dX7_isReader_4 : decode cX7_isReader 4 = .ok (.getfield 29, 3) := by decide +kernel
theorem dX7_isReader_7 : decode cX7_isReader 7 = .ok (.iconst 1, 1) := by decide +kernel
theorem dX7_isReader_8 : decode cX7_isReader 8 = .ok (.iaload, 1) := by decide +kernel
theorem dX7_isReader_9 : decode cX7_isReader 9 = .ok (.iconst 1, 1) := by decide +kernel
theorem dX7_isReader_10 : decode cX7_isReader 10 = .ok (.isub, 1) := by decide +kernel
theorem dX7_isReader_11 : decode cX7_isReader 11 = .ok (.i2l, 1) := by decide +kernel
theorem dX7_isReader_12 : decode cX7_isReader 12 = .ok (.invokestatic 59, 3) := by decide +kernel
theorem dX7_isReader_15 : decode cX7_isReader 15 = .ok (.ireturn, 1) := by decide +kernel
theorem dX7_isPage_0 : decode cX7_isPage 0 = .ok (.iload_n 1, 1) := by decide +kernel
theorem dX7_isPage_1 : decode cX7_isPage 1 = .ok (.i2l, 1) := by decide +kernel
theorem dX7_isPage_2 : decode cX7_isPage 2 = .ok (.lconst 0, 1) := by decide +kernel
theorem dX7_isPage_3 : decode cX7_isPage 3 = .ok (.aload_n 0, 1) := by decide +kernel
theorem dX7_isPage_4 : decode cX7_isPage 4 = .ok (.getfield 7, 3) := by decide +kernel
theorem dX7_isPage_7 : decode cX7_isPage 7 = .ok (.sipush 1332, 3) := by decide +kernel
theorem dX7_isPage_10 : decode cX7_isPage 10 = .ok (.iaload, 1) := by decide +kernel
theorem dX7_isPage_11 : decode cX7_isPage 11 = .ok (.iconst 1, 1) := by decide +kernel
theorem dX7_isPage_12 : decode cX7_isPage 12 = .ok (.isub, 1) := by decide +kernel
theorem dX7_isPage_13 : decode cX7_isPage 13 = .ok (.i2l, 1) := by decide +kernel
theorem dX7_isPage_14 : decode cX7_isPage 14 = .ok (.invokestatic 59, 3) := by decide +kernel
theorem dX7_isPage_17 : decode cX7_isPage 17 = .ok (.ireturn, 1) := by decide +kernel
theorem dX7_copyRow_0 : decode cX7_copyRow 0 = .ok (.iconst 0, 1) := by decide +kernel
theorem dX7_copyRow_1 : decode cX7_copyRow 1 = .ok (.istore_n 3, 1) := by decide +kernel
theorem dX7_copyRow_2 : decode cX7_copyRow 2 = .ok (.iload_n 3, 1) := by decide +kernel
theorem dX7_copyRow_3 : decode cX7_copyRow 3 = .ok (.sipush 1500, 3) := by decide +kernel
theorem dX7_copyRow_6 : decode cX7_copyRow 6 = .ok (.if_icmp .ge 25, 3) := by decide +kernel
theorem dX7_copyRow_9 : decode cX7_copyRow 9 = .ok (.aload_n 0, 1) := by decide +kernel
theorem dX7_copyRow_10 : decode cX7_copyRow 10 = .ok (.getfield 7, 3) := by decide +kernel
theorem dX7_copyRow_13 : decode cX7_copyRow 13 = .ok (.iload_n 2, 1) := by decide +kernel
theorem dX7_copyRow_14 : decode cX7_copyRow 14 = .ok (.iload_n 3, 1) := by decide +kernel
theorem dX7_copyRow_15 : decode cX7_copyRow 15 = .ok (.iadd, 1) := by decide +kernel
theorem dX7_copyRow_16 : decode cX7_copyRow 16 = .ok (.aload_n 0, 1) := by decide +kernel
theorem dX7_copyRow_17 : decode cX7_copyRow 17 = .ok (.getfield 7, 3) := by decide +kernel
theorem dX7_copyRow_20 : decode cX7_copyRow 20 = .ok (.iload_n 1, 1) := by decide +kernel
theorem dX7_copyRow_21 : decode cX7_copyRow 21 = .ok (.iload_n 3, 1) := by decide +kernel
theorem dX7_copyRow_22 : decode cX7_copyRow 22 = .ok (.iadd, 1) := by decide +kernel
theorem dX7_copyRow_23 : decode cX7_copyRow 23 = .ok (.iaload, 1) := by decide +kernel
theorem dX7_copyRow_24 : decode cX7_copyRow 24 = .ok (.iastore, 1) := by decide +kernel
theorem dX7_copyRow_25 : decode cX7_copyRow 25 = .ok (.iinc 3 1, 3) := by decide +kernel
theorem dX7_copyRow_28 : decode cX7_copyRow 28 = .ok (.goto (-26), 3) := by decide +kernel
theorem dX7_copyRow_31 : decode cX7_copyRow 31 = .ok (.return_, 1) := by decide +kernel
theorem dX7_isKeptLine_0 : decode cX7_isKeptLine 0 = .ok (.iconst 0, 1) := by decide +kernel
theorem dX7_isKeptLine_1 : decode cX7_isKeptLine 1 = .ok (.istore_n 3, 1) := by decide +kernel
theorem dX7_isKeptLine_2 : decode cX7_isKeptLine 2 = .ok (.iconst 0, 1) := by decide +kernel
theorem dX7_isKeptLine_3 : decode cX7_isKeptLine 3 = .ok (.istore 4, 2) := by decide +kernel
theorem dX7_isKeptLine_5 : decode cX7_isKeptLine 5 = .ok (.iload 4, 2) := by decide +kernel
theorem dX7_isKeptLine_7 : decode cX7_isKeptLine 7 = .ok (.aload_n 0, 1) := by decide +kernel
theorem dX7_isKeptLine_8 : decode cX7_isKeptLine 8 = .ok (.getfield 7, 3) := by decide +kernel
theorem dX7_isKeptLine_11 : decode cX7_isKeptLine 11 = .ok (.iload_n 1, 1) := by decide +kernel
theorem dX7_isKeptLine_12 : decode cX7_isKeptLine 12 = .ok (.sipush 1332, 3) := by decide +kernel
theorem dX7_isKeptLine_15 : decode cX7_isKeptLine 15 = .ok (.iadd, 1) := by decide +kernel
theorem dX7_isKeptLine_16 : decode cX7_isKeptLine 16 = .ok (.iaload, 1) := by decide +kernel
theorem dX7_isKeptLine_17 : decode cX7_isKeptLine 17 = .ok (.if_icmp .ge 64, 3) := by decide +kernel
theorem dX7_isKeptLine_20 : decode cX7_isKeptLine 20 = .ok (.iload_n 3, 1) := by decide +kernel
theorem dX7_isKeptLine_21 : decode cX7_isKeptLine 21 = .ok (.ifCond .ne 48, 3) := by decide +kernel
theorem dX7_isKeptLine_24 : decode cX7_isKeptLine 24 = .ok (.aload_n 0, 1) := by decide +kernel
theorem dX7_isKeptLine_25 : decode cX7_isKeptLine 25 = .ok (.getfield 7, 3) := by decide +kernel
theorem dX7_isKeptLine_28 : decode cX7_isKeptLine 28 = .ok (.iload_n 1, 1) := by decide +kernel
theorem dX7_isKeptLine_29 : decode cX7_isKeptLine 29 = .ok (.iload 4, 2) := by decide +kernel
theorem dX7_isKeptLine_31 : decode cX7_isKeptLine 31 = .ok (.iadd, 1) := by decide +kernel
theorem dX7_isKeptLine_32 : decode cX7_isKeptLine 32 = .ok (.iaload, 1) := by decide +kernel
theorem dX7_isKeptLine_33 : decode cX7_isKeptLine 33 = .ok (.iload_n 2, 1) := by decide +kernel
theorem dX7_isKeptLine_34 : decode cX7_isKeptLine 34 = .ok (.if_icmp .ne 39, 3) := by decide +kernel
theorem dX7_isKeptLine_37 : decode cX7_isKeptLine 37 = .ok (.aload_n 0, 1) := by decide +kernel
theorem dX7_isKeptLine_38 : decode cX7_isKeptLine 38 = .ok (.getfield 7, 3) := by decide +kernel
theorem dX7_isKeptLine_41 : decode cX7_isKeptLine 41 = .ok (.iload_n 1, 1) := by decide +kernel
theorem dX7_isKeptLine_42 : decode cX7_isKeptLine 42 = .ok (.bipush 40, 2) := by decide +kernel
theorem dX7_isKeptLine_44 : decode cX7_isKeptLine 44 = .ok (.iadd, 1) := by decide +kernel
theorem dX7_isKeptLine_45 : decode cX7_isKeptLine 45 = .ok (.iload 4, 2) := by decide +kernel
theorem dX7_isKeptLine_47 : decode cX7_isKeptLine 47 = .ok (.iadd, 1) := by decide +kernel
theorem dX7_isKeptLine_48 : decode cX7_isKeptLine 48 = .ok (.iaload, 1) := by decide +kernel
theorem dX7_isKeptLine_49 : decode cX7_isKeptLine 49 = .ok (.ifCond .ne 24, 3) := by decide +kernel
theorem dX7_isKeptLine_52 : decode cX7_isKeptLine 52 = .ok (.aload_n 0, 1) := by decide +kernel
theorem dX7_isKeptLine_53 : decode cX7_isKeptLine 53 = .ok (.getfield 7, 3) := by decide +kernel
theorem dX7_isKeptLine_56 : decode cX7_isKeptLine 56 = .ok (.iload_n 1, 1) := by decide +kernel
theorem dX7_isKeptLine_57 : decode cX7_isKeptLine 57 = .ok (.bipush 80, 2) := by decide +kernel
theorem dX7_isKeptLine_59 : decode cX7_isKeptLine 59 = .ok (.iadd, 1) := by decide +kernel
theorem dX7_isKeptLine_60 : decode cX7_isKeptLine 60 = .ok (.iload 4, 2) := by decide +kernel
theorem dX7_isKeptLine_62 : decode cX7_isKeptLine 62 = .ok (.iadd, 1) := by decide +kernel
theorem dX7_isKeptLine_63 : decode cX7_isKeptLine 63 = .ok (.iaload, 1) := by decide +kernel
theorem dX7_isKeptLine_64 : decode cX7_isKeptLine 64 = .ok (.bipush 9, 2) := by decide +kernel
theorem dX7_isKeptLine_66 : decode cX7_isKeptLine 66 = .ok (.if_icmp .ge 7, 3) := by decide +kernel
theorem dX7_isKeptLine_69 : decode cX7_isKeptLine 69 = .ok (.iconst 1, 1) := by decide +kernel
theorem dX7_isKeptLine_70 : decode cX7_isKeptLine 70 = .ok (.goto 4, 3) := by decide +kernel
theorem dX7_isKeptLine_73 : decode cX7_isKeptLine 73 = .ok (.iconst 0, 1) := by decide +kernel
theorem dX7_isKeptLine_74 : decode cX7_isKeptLine 74 = .ok (.istore_n 3, 1) := by decide +kernel
theorem dX7_isKeptLine_75 : decode cX7_isKeptLine 75 = .ok (.iinc 4 1, 3) := by decide +kernel
theorem dX7_isKeptLine_78 : decode cX7_isKeptLine 78 = .ok (.goto (-73), 3) := by decide +kernel
theorem dX7_isKeptLine_81 : decode cX7_isKeptLine 81 = .ok (.iconst 0, 1) := by decide +kernel
theorem dX7_isKeptLine_82 : decode cX7_isKeptLine 82 = .ok (.istore 4, 2) := by decide +kernel
theorem dX7_isKeptLine_84 : decode cX7_isKeptLine 84 = .ok (.iload 4, 2) := by decide +kernel
theorem dX7_isKeptLine_86 : decode cX7_isKeptLine 86 = .ok (.aload_n 0, 1) := by decide +kernel
theorem dX7_isKeptLine_87 : decode cX7_isKeptLine 87 = .ok (.getfield 29, 3) := by decide +kernel
theorem dX7_isKeptLine_90 : decode cX7_isKeptLine 90 = .ok (.iconst 1, 1) := by decide +kernel
theorem dX7_isKeptLine_91 : decode cX7_isKeptLine 91 = .ok (.iaload, 1) := by decide +kernel
theorem dX7_isKeptLine_92 : decode cX7_isKeptLine 92 = .ok (.if_icmp .ge 40, 3) := by decide +kernel
theorem dX7_isKeptLine_95 : decode cX7_isKeptLine 95 = .ok (.iload_n 3, 1) := by decide +kernel
theorem dX7_isKeptLine_96 : decode cX7_isKeptLine 96 = .ok (.ifCond .ne 24, 3) := by decide +kernel
theorem dX7_isKeptLine_99 : decode cX7_isKeptLine 99 = .ok (.aload_n 0, 1) := by decide +kernel
theorem dX7_isKeptLine_100 : decode cX7_isKeptLine 100 = .ok (.getfield 7, 3) := by decide +kernel
theorem dX7_isKeptLine_103 : decode cX7_isKeptLine 103 = .ok (.iload_n 1, 1) := by decide +kernel
theorem dX7_isKeptLine_104 : decode cX7_isKeptLine 104 = .ok (.sipush 160, 3) := by decide +kernel
theorem dX7_isKeptLine_107 : decode cX7_isKeptLine 107 = .ok (.iadd, 1) := by decide +kernel
theorem dX7_isKeptLine_108 : decode cX7_isKeptLine 108 = .ok (.bipush 16, 2) := by decide +kernel
theorem dX7_isKeptLine_110 : decode cX7_isKeptLine 110 = .ok (.iload 4, 2) := by decide +kernel
theorem dX7_isKeptLine_112 : decode cX7_isKeptLine 112 = .ok (.imul, 1) := by decide +kernel
theorem dX7_isKeptLine_113 : decode cX7_isKeptLine 113 = .ok (.iadd, 1) := by decide +kernel
theorem dX7_isKeptLine_114 : decode cX7_isKeptLine 114 = .ok (.iload_n 2, 1) := by decide +kernel
theorem dX7_isKeptLine_115 : decode cX7_isKeptLine 115 = .ok (.iadd, 1) := by decide +kernel
theorem dX7_isKeptLine_116 : decode cX7_isKeptLine 116 = .ok (.iaload, 1) := by decide +kernel
theorem dX7_isKeptLine_117 : decode cX7_isKeptLine 117 = .ok (.ifCond .ne 7, 3) := by decide +kernel
theorem dX7_isKeptLine_120 : decode cX7_isKeptLine 120 = .ok (.iconst 1, 1) := by decide +kernel
theorem dX7_isKeptLine_121 : decode cX7_isKeptLine 121 = .ok (.goto 4, 3) := by decide +kernel
theorem dX7_isKeptLine_124 : decode cX7_isKeptLine 124 = .ok (.iconst 0, 1) := by decide +kernel
theorem dX7_isKeptLine_125 : decode cX7_isKeptLine 125 = .ok (.istore_n 3, 1) := by decide +kernel
theorem dX7_isKeptLine_126 : decode cX7_isKeptLine 126 = .ok (.iinc 4 1, 3) := by decide +kernel
theorem dX7_isKeptLine_129 : decode cX7_isKeptLine 129 = .ok (.goto (-45), 3) := by decide +kernel
theorem dX7_isKeptLine_132 : decode cX7_isKeptLine 132 = .ok (.iload_n 3, 1) := by decide +kernel
theorem dX7_isKeptLine_133 : decode cX7_isKeptLine 133 = .ok (.ireturn, 1) := by decide +kernel
theorem dX7_keptMany_0 : decode cX7_keptMany 0 = .ok (.iconst 0, 1) := by decide +kernel
theorem dX7_keptMany_1 : decode cX7_keptMany 1 = .ok (.istore_n 2, 1) := by decide +kernel
theorem dX7_keptMany_2 : decode cX7_keptMany 2 = .ok (.iconst 0, 1) := by decide +kernel
theorem dX7_keptMany_3 : decode cX7_keptMany 3 = .ok (.istore_n 3, 1) := by decide +kernel
theorem dX7_keptMany_4 : decode cX7_keptMany 4 = .ok (.iload_n 3, 1) := by decide +kernel
theorem dX7_keptMany_5 : decode cX7_keptMany 5 = .ok (.aload_n 0, 1) := by decide +kernel
theorem dX7_keptMany_6 : decode cX7_keptMany 6 = .ok (.getfield 29, 3) := by decide +kernel
theorem dX7_keptMany_9 : decode cX7_keptMany 9 = .ok (.iconst 0, 1) := by decide +kernel
theorem dX7_keptMany_10 : decode cX7_keptMany 10 = .ok (.iaload, 1) := by decide +kernel
theorem dX7_keptMany_11 : decode cX7_keptMany 11 = .ok (.if_icmp .ge 21, 3) := by decide +kernel
theorem dX7_keptMany_14 : decode cX7_keptMany 14 = .ok (.iload_n 2, 1) := by decide +kernel
theorem dX7_keptMany_15 : decode cX7_keptMany 15 = .ok (.aload_n 0, 1) := by decide +kernel
theorem dX7_keptMany_16 : decode cX7_keptMany 16 = .ok (.iload_n 1, 1) := by decide +kernel
theorem dX7_keptMany_17 : decode cX7_keptMany 17 = .ok (.iload_n 3, 1) := by decide +kernel
theorem dX7_keptMany_18 : decode cX7_keptMany 18 = .ok (.invokevirtual 137, 3) := by decide +kernel
theorem dX7_keptMany_21 : decode cX7_keptMany 21 = .ok (.invokestatic 141, 3) := by decide +kernel
theorem dX7_keptMany_24 : decode cX7_keptMany 24 = .ok (.iadd, 1) := by decide +kernel
theorem dX7_keptMany_25 : decode cX7_keptMany 25 = .ok (.istore_n 2, 1) := by decide +kernel
theorem dX7_keptMany_26 : decode cX7_keptMany 26 = .ok (.iinc 3 1, 3) := by decide +kernel
theorem dX7_keptMany_29 : decode cX7_keptMany 29 = .ok (.goto (-25), 3) := by decide +kernel
theorem dX7_keptMany_32 : decode cX7_keptMany 32 = .ok (.iload_n 2, 1) := by decide +kernel
theorem dX7_keptMany_33 : decode cX7_keptMany 33 = .ok (.ireturn, 1) := by decide +kernel
theorem dX7_told_0 : decode cX7_told 0 = .ok (.iload_n 1, 1) := by decide +kernel
theorem dX7_told_1 : decode cX7_told 1 = .ok (.tableswitch 122 0 9 #[55, 62, 69, 78, 83, 92, 97, 102, 111, 116], 55) := by decide +kernel
theorem dX7_told_56 : decode cX7_told 56 = .ok (.aload_n 0, 1) := by decide +kernel
theorem dX7_told_57 : decode cX7_told 57 = .ok (.getfield 29, 3) := by decide +kernel
theorem dX7_told_60 : decode cX7_told 60 = .ok (.iconst 0, 1) := by decide +kernel
theorem dX7_told_61 : decode cX7_told 61 = .ok (.iaload, 1) := by decide +kernel
theorem dX7_told_62 : decode cX7_told 62 = .ok (.ireturn, 1) := by decide +kernel
theorem dX7_told_63 : decode cX7_told 63 = .ok (.aload_n 0, 1) := by decide +kernel
theorem dX7_told_64 : decode cX7_told 64 = .ok (.getfield 29, 3) := by decide +kernel
theorem dX7_told_67 : decode cX7_told 67 = .ok (.iconst 1, 1) := by decide +kernel
theorem dX7_told_68 : decode cX7_told 68 = .ok (.iaload, 1) := by decide +kernel
theorem dX7_told_69 : decode cX7_told 69 = .ok (.ireturn, 1) := by decide +kernel
theorem dX7_told_70 : decode cX7_told 70 = .ok (.aload_n 0, 1) := by decide +kernel
theorem dX7_told_71 : decode cX7_told 71 = .ok (.getfield 7, 3) := by decide +kernel
theorem dX7_told_74 : decode cX7_told 74 = .ok (.sipush 1332, 3) := by decide +kernel
theorem dX7_told_77 : decode cX7_told 77 = .ok (.iaload, 1) := by decide +kernel
theorem dX7_told_78 : decode cX7_told 78 = .ok (.ireturn, 1) := by decide +kernel
theorem dX7_told_79 : decode cX7_told 79 = .ok (.aload_n 0, 1) := by decide +kernel
theorem dX7_told_80 : decode cX7_told 80 = .ok (.getfield 131, 3) := by decide +kernel
theorem dX7_told_83 : decode cX7_told 83 = .ok (.ireturn, 1) := by decide +kernel
theorem dX7_told_84 : decode cX7_told 84 = .ok (.aload_n 0, 1) := by decide +kernel
theorem dX7_told_85 : decode cX7_told 85 = .ok (.getfield 7, 3) := by decide +kernel
theorem dX7_told_88 : decode cX7_told 88 = .ok (.sipush 1333, 3) := by decide +kernel
theorem dX7_told_91 : decode cX7_told 91 = .ok (.iaload, 1) := by decide +kernel
theorem dX7_told_92 : decode cX7_told 92 = .ok (.ireturn, 1) := by decide +kernel
theorem dX7_told_93 : decode cX7_told 93 = .ok (.aload_n 0, 1) := by decide +kernel
theorem dX7_told_94 : decode cX7_told 94 = .ok (.getfield 134, 3) := by decide +kernel
theorem dX7_told_97 : decode cX7_told 97 = .ok (.ireturn, 1) := by decide +kernel
theorem dX7_told_98 : decode cX7_told 98 = .ok (.aload_n 0, 1) := by decide +kernel
theorem dX7_told_99 : decode cX7_told 99 = .ok (.getfield 64, 3) := by decide +kernel
theorem dX7_told_102 : decode cX7_told 102 = .ok (.ireturn, 1) := by decide +kernel
theorem dX7_told_103 : decode cX7_told 103 = .ok (.aload_n 0, 1) := by decide +kernel
theorem dX7_told_104 : decode cX7_told 104 = .ok (.getfield 7, 3) := by decide +kernel
theorem dX7_told_107 : decode cX7_told 107 = .ok (.sipush 1334, 3) := by decide +kernel
theorem dX7_told_110 : decode cX7_told 110 = .ok (.iaload, 1) := by decide +kernel
theorem dX7_told_111 : decode cX7_told 111 = .ok (.ireturn, 1) := by decide +kernel
theorem dX7_told_112 : decode cX7_told 112 = .ok (.aload_n 0, 1) := by decide +kernel
theorem dX7_told_113 : decode cX7_told 113 = .ok (.getfield 32, 3) := by decide +kernel
theorem dX7_told_116 : decode cX7_told 116 = .ok (.ireturn, 1) := by decide +kernel
theorem dX7_told_117 : decode cX7_told 117 = .ok (.aload_n 0, 1) := by decide +kernel
theorem dX7_told_118 : decode cX7_told 118 = .ok (.iconst 0, 1) := by decide +kernel
theorem dX7_told_119 : decode cX7_told 119 = .ok (.invokevirtual 145, 3) := by decide +kernel
theorem dX7_told_122 : decode cX7_told 122 = .ok (.ireturn, 1) := by decide +kernel
theorem dX7_told_123 : decode cX7_told 123 = .ok (.ldc 63, 2) := by decide +kernel
theorem dX7_told_125 : decode cX7_told 125 = .ok (.ireturn, 1) := by decide +kernel
theorem dX7_pagesOf_0 : decode cX7_pagesOf 0 = .ok (.iconst 0, 1) := by decide +kernel
theorem dX7_pagesOf_1 : decode cX7_pagesOf 1 = .ok (.istore_n 2, 1) := by decide +kernel
theorem dX7_pagesOf_2 : decode cX7_pagesOf 2 = .ok (.iconst 0, 1) := by decide +kernel
theorem dX7_pagesOf_3 : decode cX7_pagesOf 3 = .ok (.istore_n 3, 1) := by decide +kernel
theorem dX7_pagesOf_4 : decode cX7_pagesOf 4 = .ok (.iload_n 3, 1) := by decide +kernel
theorem dX7_pagesOf_5 : decode cX7_pagesOf 5 = .ok (.aload_n 0, 1) := by decide +kernel
theorem dX7_pagesOf_6 : decode cX7_pagesOf 6 = .ok (.getfield 7, 3) := by decide +kernel
theorem dX7_pagesOf_9 : decode cX7_pagesOf 9 = .ok (.sipush 1332, 3) := by decide +kernel
theorem dX7_pagesOf_12 : decode cX7_pagesOf 12 = .ok (.iaload, 1) := by decide +kernel
theorem dX7_pagesOf_13 : decode cX7_pagesOf 13 = .ok (.if_icmp .ge 44, 3) := by decide +kernel
theorem dX7_pagesOf_16 : decode cX7_pagesOf 16 = .ok (.iload_n 2, 1) := by decide +kernel
theorem dX7_pagesOf_17 : decode cX7_pagesOf 17 = .ok (.aload_n 0, 1) := by decide +kernel
theorem dX7_pagesOf_18 : decode cX7_pagesOf 18 = .ok (.getfield 7, 3) := by decide +kernel
theorem dX7_pagesOf_21 : decode cX7_pagesOf 21 = .ok (.iload_n 3, 1) := by decide +kernel
theorem dX7_pagesOf_22 : decode cX7_pagesOf 22 = .ok (.iaload, 1) := by decide +kernel
theorem dX7_pagesOf_23 : decode cX7_pagesOf 23 = .ok (.iload_n 1, 1) := by decide +kernel
theorem dX7_pagesOf_24 : decode cX7_pagesOf 24 = .ok (.if_icmp .ne 21, 3) := by decide +kernel
theorem dX7_pagesOf_27 : decode cX7_pagesOf 27 = .ok (.aload_n 0, 1) := by decide +kernel
theorem dX7_pagesOf_28 : decode cX7_pagesOf 28 = .ok (.getfield 7, 3) := by decide +kernel
theorem dX7_pagesOf_31 : decode cX7_pagesOf 31 = .ok (.bipush 80, 2) := by decide +kernel
theorem dX7_pagesOf_33 : decode cX7_pagesOf 33 = .ok (.iload_n 3, 1) := by decide +kernel
theorem dX7_pagesOf_34 : decode cX7_pagesOf 34 = .ok (.iadd, 1) := by decide +kernel
theorem dX7_pagesOf_35 : decode cX7_pagesOf 35 = .ok (.iaload, 1) := by decide +kernel
theorem dX7_pagesOf_36 : decode cX7_pagesOf 36 = .ok (.bipush 9, 2) := by decide +kernel
theorem dX7_pagesOf_38 : decode cX7_pagesOf 38 = .ok (.if_icmp .ge 7, 3) := by decide +kernel
theorem dX7_pagesOf_41 : decode cX7_pagesOf 41 = .ok (.iconst 1, 1) := by decide +kernel
theorem dX7_pagesOf_42 : decode cX7_pagesOf 42 = .ok (.goto 4, 3) := by decide +kernel
theorem dX7_pagesOf_45 : decode cX7_pagesOf 45 = .ok (.iconst 0, 1) := by decide +kernel
theorem dX7_pagesOf_46 : decode cX7_pagesOf 46 = .ok (.invokestatic 141, 3) := by decide +kernel
theorem dX7_pagesOf_49 : decode cX7_pagesOf 49 = .ok (.iadd, 1) := by decide +kernel
theorem dX7_pagesOf_50 : decode cX7_pagesOf 50 = .ok (.istore_n 2, 1) := by decide +kernel
theorem dX7_pagesOf_51 : decode cX7_pagesOf 51 = .ok (.iinc 3 1, 3) := by decide +kernel
theorem dX7_pagesOf_54 : decode cX7_pagesOf 54 = .ok (.goto (-50), 3) := by decide +kernel
theorem dX7_pagesOf_57 : decode cX7_pagesOf 57 = .ok (.iload_n 2, 1) := by decide +kernel
theorem dX7_pagesOf_58 : decode cX7_pagesOf 58 = .ok (.ireturn, 1) := by decide +kernel
theorem dX7_knowers_0 : decode cX7_knowers 0 = .ok (.iconst 0, 1) := by decide +kernel
theorem dX7_knowers_1 : decode cX7_knowers 1 = .ok (.istore_n 2, 1) := by decide +kernel
theorem dX7_knowers_2 : decode cX7_knowers 2 = .ok (.iconst 0, 1) := by decide +kernel
theorem dX7_knowers_3 : decode cX7_knowers 3 = .ok (.istore_n 3, 1) := by decide +kernel
theorem dX7_knowers_4 : decode cX7_knowers 4 = .ok (.iload_n 3, 1) := by decide +kernel
theorem dX7_knowers_5 : decode cX7_knowers 5 = .ok (.aload_n 0, 1) := by decide +kernel
theorem dX7_knowers_6 : decode cX7_knowers 6 = .ok (.getfield 29, 3) := by decide +kernel
theorem dX7_knowers_9 : decode cX7_knowers 9 = .ok (.iconst 1, 1) := by decide +kernel
theorem dX7_knowers_10 : decode cX7_knowers 10 = .ok (.iaload, 1) := by decide +kernel
theorem dX7_knowers_11 : decode cX7_knowers 11 = .ok (.if_icmp .ge 40, 3) := by decide +kernel
theorem dX7_knowers_14 : decode cX7_knowers 14 = .ok (.iload_n 2, 1) := by decide +kernel
theorem dX7_knowers_15 : decode cX7_knowers 15 = .ok (.aload_n 0, 1) := by decide +kernel
theorem dX7_knowers_16 : decode cX7_knowers 16 = .ok (.getfield 7, 3) := by decide +kernel
theorem dX7_knowers_19 : decode cX7_knowers 19 = .ok (.sipush 160, 3) := by decide +kernel
theorem dX7_knowers_22 : decode cX7_knowers 22 = .ok (.bipush 16, 2) := by decide +kernel
theorem dX7_knowers_24 : decode cX7_knowers 24 = .ok (.iload_n 3, 1) := by decide +kernel
theorem dX7_knowers_25 : decode cX7_knowers 25 = .ok (.imul, 1) := by decide +kernel
theorem dX7_knowers_26 : decode cX7_knowers 26 = .ok (.iadd, 1) := by decide +kernel
theorem dX7_knowers_27 : decode cX7_knowers 27 = .ok (.iload_n 1, 1) := by decide +kernel
theorem dX7_knowers_28 : decode cX7_knowers 28 = .ok (.iadd, 1) := by decide +kernel
theorem dX7_knowers_29 : decode cX7_knowers 29 = .ok (.iaload, 1) := by decide +kernel
theorem dX7_knowers_30 : decode cX7_knowers 30 = .ok (.ifCond .lt 7, 3) := by decide +kernel
theorem dX7_knowers_33 : decode cX7_knowers 33 = .ok (.iconst 1, 1) := by decide +kernel
theorem dX7_knowers_34 : decode cX7_knowers 34 = .ok (.goto 4, 3) := by decide +kernel
theorem dX7_knowers_37 : decode cX7_knowers 37 = .ok (.iconst 0, 1) := by decide +kernel
theorem dX7_knowers_38 : decode cX7_knowers 38 = .ok (.invokestatic 141, 3) := by decide +kernel
theorem dX7_knowers_41 : decode cX7_knowers 41 = .ok (.iload_n 3, 1) := by decide +kernel
theorem dX7_knowers_42 : decode cX7_knowers 42 = .ok (.ishl, 1) := by decide +kernel
theorem dX7_knowers_43 : decode cX7_knowers 43 = .ok (.ior, 1) := by decide +kernel
theorem dX7_knowers_44 : decode cX7_knowers 44 = .ok (.istore_n 2, 1) := by decide +kernel
theorem dX7_knowers_45 : decode cX7_knowers 45 = .ok (.iinc 3 1, 3) := by decide +kernel
theorem dX7_knowers_48 : decode cX7_knowers 48 = .ok (.goto (-44), 3) := by decide +kernel
theorem dX7_knowers_51 : decode cX7_knowers 51 = .ok (.iload_n 2, 1) := by decide +kernel
theorem dX7_knowers_52 : decode cX7_knowers 52 = .ok (.ireturn, 1) := by decide +kernel
theorem dX7_votesFor_0 : decode cX7_votesFor 0 = .ok (.iconst 0, 1) := by decide +kernel
theorem dX7_votesFor_1 : decode cX7_votesFor 1 = .ok (.istore_n 3, 1) := by decide +kernel
theorem dX7_votesFor_2 : decode cX7_votesFor 2 = .ok (.iconst 0, 1) := by decide +kernel
theorem dX7_votesFor_3 : decode cX7_votesFor 3 = .ok (.istore 4, 2) := by decide +kernel
theorem dX7_votesFor_5 : decode cX7_votesFor 5 = .ok (.iload 4, 2) := by decide +kernel
theorem dX7_votesFor_7 : decode cX7_votesFor 7 = .ok (.aload_n 0, 1) := by decide +kernel
theorem dX7_votesFor_8 : decode cX7_votesFor 8 = .ok (.getfield 7, 3) := by decide +kernel
theorem dX7_votesFor_11 : decode cX7_votesFor 11 = .ok (.sipush 1332, 3) := by decide +kernel
theorem dX7_votesFor_14 : decode cX7_votesFor 14 = .ok (.iaload, 1) := by decide +kernel
theorem dX7_votesFor_15 : decode cX7_votesFor 15 = .ok (.if_icmp .ge 60, 3) := by decide +kernel
theorem dX7_votesFor_18 : decode cX7_votesFor 18 = .ok (.iload_n 3, 1) := by decide +kernel
theorem dX7_votesFor_19 : decode cX7_votesFor 19 = .ok (.aload_n 0, 1) := by decide +kernel
theorem dX7_votesFor_20 : decode cX7_votesFor 20 = .ok (.getfield 7, 3) := by decide +kernel
theorem dX7_votesFor_23 : decode cX7_votesFor 23 = .ok (.iload 4, 2) := by decide +kernel
theorem dX7_votesFor_25 : decode cX7_votesFor 25 = .ok (.iaload, 1) := by decide +kernel
theorem dX7_votesFor_26 : decode cX7_votesFor 26 = .ok (.iload_n 1, 1) := by decide +kernel
theorem dX7_votesFor_27 : decode cX7_votesFor 27 = .ok (.if_icmp .ne 36, 3) := by decide +kernel
theorem dX7_votesFor_30 : decode cX7_votesFor 30 = .ok (.aload_n 0, 1) := by decide +kernel
theorem dX7_votesFor_31 : decode cX7_votesFor 31 = .ok (.getfield 7, 3) := by decide +kernel
theorem dX7_votesFor_34 : decode cX7_votesFor 34 = .ok (.bipush 80, 2) := by decide +kernel
theorem dX7_votesFor_36 : decode cX7_votesFor 36 = .ok (.iload 4, 2) := by decide +kernel
theorem dX7_votesFor_38 : decode cX7_votesFor 38 = .ok (.iadd, 1) := by decide +kernel
theorem dX7_votesFor_39 : decode cX7_votesFor 39 = .ok (.iaload, 1) := by decide +kernel
theorem dX7_votesFor_40 : decode cX7_votesFor 40 = .ok (.bipush 9, 2) := by decide +kernel
theorem dX7_votesFor_42 : decode cX7_votesFor 42 = .ok (.if_icmp .ge 21, 3) := by decide +kernel
theorem dX7_votesFor_45 : decode cX7_votesFor 45 = .ok (.aload_n 0, 1) := by decide +kernel
theorem dX7_votesFor_46 : decode cX7_votesFor 46 = .ok (.getfield 7, 3) := by decide +kernel
theorem dX7_votesFor_49 : decode cX7_votesFor 49 = .ok (.bipush 40, 2) := by decide +kernel
theorem dX7_votesFor_51 : decode cX7_votesFor 51 = .ok (.iload 4, 2) := by decide +kernel
theorem dX7_votesFor_53 : decode cX7_votesFor 53 = .ok (.iadd, 1) := by decide +kernel
theorem dX7_votesFor_54 : decode cX7_votesFor 54 = .ok (.iaload, 1) := by decide +kernel
theorem dX7_votesFor_55 : decode cX7_votesFor 55 = .ok (.iload_n 2, 1) := by decide +kernel
theorem dX7_votesFor_56 : decode cX7_votesFor 56 = .ok (.if_icmp .ne 7, 3) := by decide +kernel
theorem dX7_votesFor_59 : decode cX7_votesFor 59 = .ok (.iconst 1, 1) := by decide +kernel
theorem dX7_votesFor_60 : decode cX7_votesFor 60 = .ok (.goto 4, 3) := by decide +kernel
theorem dX7_votesFor_63 : decode cX7_votesFor 63 = .ok (.iconst 0, 1) := by decide +kernel
theorem dX7_votesFor_64 : decode cX7_votesFor 64 = .ok (.invokestatic 141, 3) := by decide +kernel
theorem dX7_votesFor_67 : decode cX7_votesFor 67 = .ok (.iadd, 1) := by decide +kernel
theorem dX7_votesFor_68 : decode cX7_votesFor 68 = .ok (.istore_n 3, 1) := by decide +kernel
theorem dX7_votesFor_69 : decode cX7_votesFor 69 = .ok (.iinc 4 1, 3) := by decide +kernel
theorem dX7_votesFor_72 : decode cX7_votesFor 72 = .ok (.goto (-67), 3) := by decide +kernel
theorem dX7_votesFor_75 : decode cX7_votesFor 75 = .ok (.iconst 0, 1) := by decide +kernel
theorem dX7_votesFor_76 : decode cX7_votesFor 76 = .ok (.istore 4, 2) := by decide +kernel
theorem dX7_votesFor_78 : decode cX7_votesFor 78 = .ok (.iload 4, 2) := by decide +kernel
theorem dX7_votesFor_80 : decode cX7_votesFor 80 = .ok (.aload_n 0, 1) := by decide +kernel
theorem dX7_votesFor_81 : decode cX7_votesFor 81 = .ok (.getfield 29, 3) := by decide +kernel
theorem dX7_votesFor_84 : decode cX7_votesFor 84 = .ok (.iconst 1, 1) := by decide +kernel
theorem dX7_votesFor_85 : decode cX7_votesFor 85 = .ok (.iaload, 1) := by decide +kernel
theorem dX7_votesFor_86 : decode cX7_votesFor 86 = .ok (.if_icmp .ge 40, 3) := by decide +kernel
theorem dX7_votesFor_89 : decode cX7_votesFor 89 = .ok (.iload_n 3, 1) := by decide +kernel
theorem dX7_votesFor_90 : decode cX7_votesFor 90 = .ok (.aload_n 0, 1) := by decide +kernel
theorem dX7_votesFor_91 : decode cX7_votesFor 91 = .ok (.getfield 7, 3) := by decide +kernel
theorem dX7_votesFor_94 : decode cX7_votesFor 94 = .ok (.sipush 160, 3) := by decide +kernel
theorem dX7_votesFor_97 : decode cX7_votesFor 97 = .ok (.bipush 16, 2) := by decide +kernel
theorem dX7_votesFor_99 : decode cX7_votesFor 99 = .ok (.iload 4, 2) := by decide +kernel
theorem dX7_votesFor_101 : decode cX7_votesFor 101 = .ok (.imul, 1) := by decide +kernel
theorem dX7_votesFor_102 : decode cX7_votesFor 102 = .ok (.iadd, 1) := by decide +kernel
theorem dX7_votesFor_103 : decode cX7_votesFor 103 = .ok (.iload_n 1, 1) := by decide +kernel
theorem dX7_votesFor_104 : decode cX7_votesFor 104 = .ok (.iadd, 1) := by decide +kernel
theorem dX7_votesFor_105 : decode cX7_votesFor 105 = .ok (.iaload, 1) := by decide +kernel
theorem dX7_votesFor_106 : decode cX7_votesFor 106 = .ok (.iload_n 2, 1) := by decide +kernel
theorem dX7_votesFor_107 : decode cX7_votesFor 107 = .ok (.if_icmp .ne 7, 3) := by decide +kernel
theorem dX7_votesFor_110 : decode cX7_votesFor 110 = .ok (.iconst 1, 1) := by decide +kernel
theorem dX7_votesFor_111 : decode cX7_votesFor 111 = .ok (.goto 4, 3) := by decide +kernel
theorem dX7_votesFor_114 : decode cX7_votesFor 114 = .ok (.iconst 0, 1) := by decide +kernel
theorem dX7_votesFor_115 : decode cX7_votesFor 115 = .ok (.invokestatic 141, 3) := by decide +kernel
theorem dX7_votesFor_118 : decode cX7_votesFor 118 = .ok (.iadd, 1) := by decide +kernel
theorem dX7_votesFor_119 : decode cX7_votesFor 119 = .ok (.istore_n 3, 1) := by decide +kernel
theorem dX7_votesFor_120 : decode cX7_votesFor 120 = .ok (.iinc 4 1, 3) := by decide +kernel
theorem dX7_votesFor_123 : decode cX7_votesFor 123 = .ok (.goto (-45), 3) := by decide +kernel
theorem dX7_votesFor_126 : decode cX7_votesFor 126 = .ok (.iload_n 3, 1) := by decide +kernel
theorem dX7_votesFor_127 : decode cX7_votesFor 127 = .ok (.ireturn, 1) := by decide +kernel
theorem dX7_vote_0 : decode cX7_vote 0 = .ok (.aload_n 0, 1) := by decide +kernel
theorem dX7_vote_1 : decode cX7_vote 1 = .ok (.iload_n 1, 1) := by decide +kernel
theorem dX7_vote_2 : decode cX7_vote 2 = .ok (.invokevirtual 149, 3) := by decide +kernel
theorem dX7_vote_5 : decode cX7_vote 5 = .ok (.aload_n 0, 1) := by decide +kernel
theorem dX7_vote_6 : decode cX7_vote 6 = .ok (.iload_n 1, 1) := by decide +kernel
theorem dX7_vote_7 : decode cX7_vote 7 = .ok (.invokevirtual 152, 3) := by decide +kernel
theorem dX7_vote_10 : decode cX7_vote 10 = .ok (.invokestatic 155, 3) := by decide +kernel
theorem dX7_vote_13 : decode cX7_vote 13 = .ok (.iadd, 1) := by decide +kernel
theorem dX7_vote_14 : decode cX7_vote 14 = .ok (.istore_n 2, 1) := by decide +kernel
theorem dX7_vote_15 : decode cX7_vote 15 = .ok (.iconst (-1), 1) := by decide +kernel
theorem dX7_vote_16 : decode cX7_vote 16 = .ok (.istore_n 3, 1) := by decide +kernel
theorem dX7_vote_17 : decode cX7_vote 17 = .ok (.iconst 0, 1) := by decide +kernel
theorem dX7_vote_18 : decode cX7_vote 18 = .ok (.istore 4, 2) := by decide +kernel
theorem dX7_vote_20 : decode cX7_vote 20 = .ok (.iload 4, 2) := by decide +kernel
theorem dX7_vote_22 : decode cX7_vote 22 = .ok (.bipush 40, 2) := by decide +kernel
theorem dX7_vote_24 : decode cX7_vote 24 = .ok (.if_icmp .gt 29, 3) := by decide +kernel
theorem dX7_vote_27 : decode cX7_vote 27 = .ok (.iconst 2, 1) := by decide +kernel
theorem dX7_vote_28 : decode cX7_vote 28 = .ok (.aload_n 0, 1) := by decide +kernel
theorem dX7_vote_29 : decode cX7_vote 29 = .ok (.iload_n 1, 1) := by decide +kernel
theorem dX7_vote_30 : decode cX7_vote 30 = .ok (.iload 4, 2) := by decide +kernel
theorem dX7_vote_32 : decode cX7_vote 32 = .ok (.invokevirtual 158, 3) := by decide +kernel
theorem dX7_vote_35 : decode cX7_vote 35 = .ok (.imul, 1) := by decide +kernel
theorem dX7_vote_36 : decode cX7_vote 36 = .ok (.iload_n 2, 1) := by decide +kernel
theorem dX7_vote_37 : decode cX7_vote 37 = .ok (.if_icmp .le 8, 3) := by decide +kernel
theorem dX7_vote_40 : decode cX7_vote 40 = .ok (.iload 4, 2) := by decide +kernel
theorem dX7_vote_42 : decode cX7_vote 42 = .ok (.goto 4, 3) := by decide +kernel
theorem dX7_vote_45 : decode cX7_vote 45 = .ok (.iload_n 3, 1) := by decide +kernel
theorem dX7_vote_46 : decode cX7_vote 46 = .ok (.istore_n 3, 1) := by decide +kernel
theorem dX7_vote_47 : decode cX7_vote 47 = .ok (.iinc 4 1, 3) := by decide +kernel
theorem dX7_vote_50 : decode cX7_vote 50 = .ok (.goto (-30), 3) := by decide +kernel
theorem dX7_vote_53 : decode cX7_vote 53 = .ok (.iload_n 3, 1) := by decide +kernel
theorem dX7_vote_54 : decode cX7_vote 54 = .ok (.ireturn, 1) := by decide +kernel
theorem dX7_line_0 : decode cX7_line 0 = .ok (.aload_n 0, 1) := by decide +kernel
theorem dX7_line_1 : decode cX7_line 1 = .ok (.iload_n 1, 1) := by decide +kernel
theorem dX7_line_2 : decode cX7_line 2 = .ok (.invokevirtual 161, 3) := by decide +kernel
theorem dX7_line_5 : decode cX7_line 5 = .ok (.ifCond .ne 6, 3) := by decide +kernel
theorem dX7_line_8 : decode cX7_line 8 = .ok (.ldc 165, 2) := by decide +kernel
theorem dX7_line_10 : decode cX7_line 10 = .ok (.ireturn, 1) := by decide +kernel
theorem dX7_line_11 : decode cX7_line 11 = .ok (.iload_n 2, 1) := by decide +kernel
theorem dX7_line_12 : decode cX7_line 12 = .ok (.tableswitch 86 0 5 #[40, 47, 57, 63, 69, 75], 40) := by decide +kernel
theorem dX7_line_52 : decode cX7_line 52 = .ok (.aload_n 0, 1) := by decide +kernel
theorem dX7_line_53 : decode cX7_line 53 = .ok (.getfield 17, 3) := by decide +kernel
theorem dX7_line_56 : decode cX7_line 56 = .ok (.iload_n 1, 1) := by decide +kernel
theorem dX7_line_57 : decode cX7_line 57 = .ok (.iaload, 1) := by decide +kernel
theorem dX7_line_58 : decode cX7_line 58 = .ok (.ireturn, 1) := by decide +kernel
theorem dX7_line_59 : decode cX7_line 59 = .ok (.aload_n 0, 1) := by decide +kernel
theorem dX7_line_60 : decode cX7_line 60 = .ok (.iconst 0, 1) := by decide +kernel
theorem dX7_line_61 : decode cX7_line 61 = .ok (.iload_n 1, 1) := by decide +kernel
theorem dX7_line_62 : decode cX7_line 62 = .ok (.invokevirtual 137, 3) := by decide +kernel
theorem dX7_line_65 : decode cX7_line 65 = .ok (.invokestatic 141, 3) := by decide +kernel
theorem dX7_line_68 : decode cX7_line 68 = .ok (.ireturn, 1) := by decide +kernel
theorem dX7_line_69 : decode cX7_line 69 = .ok (.aload_n 0, 1) := by decide +kernel
theorem dX7_line_70 : decode cX7_line 70 = .ok (.iload_n 1, 1) := by decide +kernel
theorem dX7_line_71 : decode cX7_line 71 = .ok (.invokevirtual 149, 3) := by decide +kernel
theorem dX7_line_74 : decode cX7_line 74 = .ok (.ireturn, 1) := by decide +kernel
theorem dX7_line_75 : decode cX7_line 75 = .ok (.aload_n 0, 1) := by decide +kernel
theorem dX7_line_76 : decode cX7_line 76 = .ok (.iload_n 1, 1) := by decide +kernel
theorem dX7_line_77 : decode cX7_line 77 = .ok (.invokevirtual 152, 3) := by decide +kernel
theorem dX7_line_80 : decode cX7_line 80 = .ok (.ireturn, 1) := by decide +kernel
theorem dX7_line_81 : decode cX7_line 81 = .ok (.aload_n 0, 1) := by decide +kernel
theorem dX7_line_82 : decode cX7_line 82 = .ok (.iload_n 1, 1) := by decide +kernel
theorem dX7_line_83 : decode cX7_line 83 = .ok (.invokevirtual 166, 3) := by decide +kernel
theorem dX7_line_86 : decode cX7_line 86 = .ok (.ireturn, 1) := by decide +kernel
theorem dX7_line_87 : decode cX7_line 87 = .ok (.aload_n 0, 1) := by decide +kernel
theorem dX7_line_88 : decode cX7_line 88 = .ok (.getfield 7, 3) := by decide +kernel
theorem dX7_line_91 : decode cX7_line 91 = .ok (.sipush 416, 3) := by decide +kernel
theorem dX7_line_94 : decode cX7_line 94 = .ok (.iload_n 1, 1) := by decide +kernel
theorem dX7_line_95 : decode cX7_line 95 = .ok (.iadd, 1) := by decide +kernel
theorem dX7_line_96 : decode cX7_line 96 = .ok (.iaload, 1) := by decide +kernel
theorem dX7_line_97 : decode cX7_line 97 = .ok (.ireturn, 1) := by decide +kernel
theorem dX7_line_98 : decode cX7_line 98 = .ok (.ldc 63, 2) := by decide +kernel
theorem dX7_line_100 : decode cX7_line 100 = .ok (.ireturn, 1) := by decide +kernel
theorem dX7_knownBy_0 : decode cX7_knownBy 0 = .ok (.iconst 0, 1) := by decide +kernel
theorem dX7_knownBy_1 : decode cX7_knownBy 1 = .ok (.istore_n 2, 1) := by decide +kernel
theorem dX7_knownBy_2 : decode cX7_knownBy 2 = .ok (.iconst 0, 1) := by decide +kernel
theorem dX7_knownBy_3 : decode cX7_knownBy 3 = .ok (.istore_n 3, 1) := by decide +kernel
theorem dX7_knownBy_4 : decode cX7_knownBy 4 = .ok (.iload_n 3, 1) := by decide +kernel
theorem dX7_knownBy_5 : decode cX7_knownBy 5 = .ok (.aload_n 0, 1) := by decide +kernel
theorem dX7_knownBy_6 : decode cX7_knownBy 6 = .ok (.getfield 29, 3) := by decide +kernel
theorem dX7_knownBy_9 : decode cX7_knownBy 9 = .ok (.iconst 0, 1) := by decide +kernel
theorem dX7_knownBy_10 : decode cX7_knownBy 10 = .ok (.iaload, 1) := by decide +kernel
theorem dX7_knownBy_11 : decode cX7_knownBy 11 = .ok (.if_icmp .ge 38, 3) := by decide +kernel
theorem dX7_knownBy_14 : decode cX7_knownBy 14 = .ok (.iload_n 2, 1) := by decide +kernel
theorem dX7_knownBy_15 : decode cX7_knownBy 15 = .ok (.aload_n 0, 1) := by decide +kernel
theorem dX7_knownBy_16 : decode cX7_knownBy 16 = .ok (.getfield 7, 3) := by decide +kernel
theorem dX7_knownBy_19 : decode cX7_knownBy 19 = .ok (.sipush 160, 3) := by decide +kernel
theorem dX7_knownBy_22 : decode cX7_knownBy 22 = .ok (.bipush 16, 2) := by decide +kernel
theorem dX7_knownBy_24 : decode cX7_knownBy 24 = .ok (.iload_n 1, 1) := by decide +kernel
theorem dX7_knownBy_25 : decode cX7_knownBy 25 = .ok (.imul, 1) := by decide +kernel
theorem dX7_knownBy_26 : decode cX7_knownBy 26 = .ok (.iadd, 1) := by decide +kernel
theorem dX7_knownBy_27 : decode cX7_knownBy 27 = .ok (.iload_n 3, 1) := by decide +kernel
theorem dX7_knownBy_28 : decode cX7_knownBy 28 = .ok (.iadd, 1) := by decide +kernel
theorem dX7_knownBy_29 : decode cX7_knownBy 29 = .ok (.iaload, 1) := by decide +kernel
theorem dX7_knownBy_30 : decode cX7_knownBy 30 = .ok (.ifCond .lt 7, 3) := by decide +kernel
theorem dX7_knownBy_33 : decode cX7_knownBy 33 = .ok (.iconst 1, 1) := by decide +kernel
theorem dX7_knownBy_34 : decode cX7_knownBy 34 = .ok (.goto 4, 3) := by decide +kernel
theorem dX7_knownBy_37 : decode cX7_knownBy 37 = .ok (.iconst 0, 1) := by decide +kernel
theorem dX7_knownBy_38 : decode cX7_knownBy 38 = .ok (.invokestatic 141, 3) := by decide +kernel
theorem dX7_knownBy_41 : decode cX7_knownBy 41 = .ok (.iadd, 1) := by decide +kernel
theorem dX7_knownBy_42 : decode cX7_knownBy 42 = .ok (.istore_n 2, 1) := by decide +kernel
theorem dX7_knownBy_43 : decode cX7_knownBy 43 = .ok (.iinc 3 1, 3) := by decide +kernel
theorem dX7_knownBy_46 : decode cX7_knownBy 46 = .ok (.goto (-42), 3) := by decide +kernel
theorem dX7_knownBy_49 : decode cX7_knownBy 49 = .ok (.iload_n 2, 1) := by decide +kernel
theorem dX7_knownBy_50 : decode cX7_knownBy 50 = .ok (.ireturn, 1) := by decide +kernel
theorem dX7_reader_0 : decode cX7_reader 0 = .ok (.aload_n 0, 1) := by decide +kernel
theorem dX7_reader_1 : decode cX7_reader 1 = .ok (.iload_n 1, 1) := by decide +kernel
theorem dX7_reader_2 : decode cX7_reader 2 = .ok (.invokevirtual 169, 3) := by decide +kernel
theorem dX7_reader_5 : decode cX7_reader 5 = .ok (.ifCond .ne 6, 3) := by decide +kernel
theorem dX7_reader_8 : decode cX7_reader 8 = .ok (.ldc 165, 2) := by decide +kernel
theorem dX7_reader_10 : decode cX7_reader 10 = .ok (.ireturn, 1) := by decide +kernel
theorem dX7_reader_11 : decode cX7_reader 11 = .ok (.iload_n 2, 1) := by decide +kernel
theorem dX7_reader_12 : decode cX7_reader 12 = .ok (.ifCond .ne 12, 3) := by decide +kernel
theorem dX7_reader_15 : decode cX7_reader 15 = .ok (.aload_n 0, 1) := by decide +kernel
theorem dX7_reader_16 : decode cX7_reader 16 = .ok (.getfield 23, 3) := by decide +kernel
theorem dX7_reader_19 : decode cX7_reader 19 = .ok (.iload_n 1, 1) := by decide +kernel
theorem dX7_reader_20 : decode cX7_reader 20 = .ok (.iaload, 1) := by decide +kernel
theorem dX7_reader_21 : decode cX7_reader 21 = .ok (.goto 32, 3) := by decide +kernel
theorem dX7_reader_24 : decode cX7_reader 24 = .ok (.iload_n 2, 1) := by decide +kernel
theorem dX7_reader_25 : decode cX7_reader 25 = .ok (.iconst 1, 1) := by decide +kernel
theorem dX7_reader_26 : decode cX7_reader 26 = .ok (.if_icmp .ne 12, 3) := by decide +kernel
theorem dX7_reader_29 : decode cX7_reader 29 = .ok (.aload_n 0, 1) := by decide +kernel
theorem dX7_reader_30 : decode cX7_reader 30 = .ok (.getfield 26, 3) := by decide +kernel
theorem dX7_reader_33 : decode cX7_reader 33 = .ok (.iload_n 1, 1) := by decide +kernel
theorem dX7_reader_34 : decode cX7_reader 34 = .ok (.iaload, 1) := by decide +kernel
theorem dX7_reader_35 : decode cX7_reader 35 = .ok (.goto 18, 3) := by decide +kernel
theorem dX7_reader_38 : decode cX7_reader 38 = .ok (.iload_n 2, 1) := by decide +kernel
theorem dX7_reader_39 : decode cX7_reader 39 = .ok (.iconst 2, 1) := by decide +kernel
theorem dX7_reader_40 : decode cX7_reader 40 = .ok (.if_icmp .ne 11, 3) := by decide +kernel
theorem dX7_reader_43 : decode cX7_reader 43 = .ok (.aload_n 0, 1) := by decide +kernel
theorem dX7_reader_44 : decode cX7_reader 44 = .ok (.iload_n 1, 1) := by decide +kernel
theorem dX7_reader_45 : decode cX7_reader 45 = .ok (.invokevirtual 172, 3) := by decide +kernel
theorem dX7_reader_48 : decode cX7_reader 48 = .ok (.goto 5, 3) := by decide +kernel
theorem dX7_reader_51 : decode cX7_reader 51 = .ok (.ldc 63, 2) := by decide +kernel
theorem dX7_reader_53 : decode cX7_reader 53 = .ok (.ireturn, 1) := by decide +kernel
theorem dX7_readMany_0 : decode cX7_readMany 0 = .ok (.iconst 0, 1) := by decide +kernel
theorem dX7_readMany_1 : decode cX7_readMany 1 = .ok (.istore_n 2, 1) := by decide +kernel
theorem dX7_readMany_2 : decode cX7_readMany 2 = .ok (.iconst 0, 1) := by decide +kernel
theorem dX7_readMany_3 : decode cX7_readMany 3 = .ok (.istore_n 3, 1) := by decide +kernel
theorem dX7_readMany_4 : decode cX7_readMany 4 = .ok (.iload_n 3, 1) := by decide +kernel
theorem dX7_readMany_5 : decode cX7_readMany 5 = .ok (.aload_n 0, 1) := by decide +kernel
theorem dX7_readMany_6 : decode cX7_readMany 6 = .ok (.getfield 7, 3) := by decide +kernel
theorem dX7_readMany_9 : decode cX7_readMany 9 = .ok (.sipush 1333, 3) := by decide +kernel
theorem dX7_readMany_12 : decode cX7_readMany 12 = .ok (.iaload, 1) := by decide +kernel
theorem dX7_readMany_13 : decode cX7_readMany 13 = .ok (.if_icmp .ge 34, 3) := by decide +kernel
theorem dX7_readMany_16 : decode cX7_readMany 16 = .ok (.iload_n 2, 1) := by decide +kernel
theorem dX7_readMany_17 : decode cX7_readMany 17 = .ok (.aload_n 0, 1) := by decide +kernel
theorem dX7_readMany_18 : decode cX7_readMany 18 = .ok (.getfield 7, 3) := by decide +kernel
theorem dX7_readMany_21 : decode cX7_readMany 21 = .ok (.sipush 732, 3) := by decide +kernel
theorem dX7_readMany_24 : decode cX7_readMany 24 = .ok (.iload_n 3, 1) := by decide +kernel
theorem dX7_readMany_25 : decode cX7_readMany 25 = .ok (.iadd, 1) := by decide +kernel
theorem dX7_readMany_26 : decode cX7_readMany 26 = .ok (.iaload, 1) := by decide +kernel
theorem dX7_readMany_27 : decode cX7_readMany 27 = .ok (.iload_n 1, 1) := by decide +kernel
theorem dX7_readMany_28 : decode cX7_readMany 28 = .ok (.if_icmp .ne 7, 3) := by decide +kernel
theorem dX7_readMany_31 : decode cX7_readMany 31 = .ok (.iconst 1, 1) := by decide +kernel
theorem dX7_readMany_32 : decode cX7_readMany 32 = .ok (.goto 4, 3) := by decide +kernel
theorem dX7_readMany_35 : decode cX7_readMany 35 = .ok (.iconst 0, 1) := by decide +kernel
theorem dX7_readMany_36 : decode cX7_readMany 36 = .ok (.invokestatic 141, 3) := by decide +kernel
theorem dX7_readMany_39 : decode cX7_readMany 39 = .ok (.iadd, 1) := by decide +kernel
theorem dX7_readMany_40 : decode cX7_readMany 40 = .ok (.istore_n 2, 1) := by decide +kernel
theorem dX7_readMany_41 : decode cX7_readMany 41 = .ok (.iinc 3 1, 3) := by decide +kernel
theorem dX7_readMany_44 : decode cX7_readMany 44 = .ok (.goto (-40), 3) := by decide +kernel
theorem dX7_readMany_47 : decode cX7_readMany 47 = .ok (.iload_n 2, 1) := by decide +kernel
theorem dX7_readMany_48 : decode cX7_readMany 48 = .ok (.ireturn, 1) := by decide +kernel
theorem dX7_page_0 : decode cX7_page 0 = .ok (.aload_n 0, 1) := by decide +kernel
theorem dX7_page_1 : decode cX7_page 1 = .ok (.iload_n 1, 1) := by decide +kernel
theorem dX7_page_2 : decode cX7_page 2 = .ok (.invokevirtual 175, 3) := by decide +kernel
theorem dX7_page_5 : decode cX7_page 5 = .ok (.ifCond .ne 6, 3) := by decide +kernel
theorem dX7_page_8 : decode cX7_page 8 = .ok (.ldc 165, 2) := by decide +kernel
theorem dX7_page_10 : decode cX7_page 10 = .ok (.ireturn, 1) := by decide +kernel
theorem dX7_page_11 : decode cX7_page 11 = .ok (.iload_n 2, 1) := by decide +kernel
theorem dX7_page_12 : decode cX7_page 12 = .ok (.ifCond .ne 12, 3) := by decide +kernel
theorem dX7_page_15 : decode cX7_page 15 = .ok (.aload_n 0, 1) := by decide +kernel
theorem dX7_page_16 : decode cX7_page 16 = .ok (.getfield 7, 3) := by decide +kernel
theorem dX7_page_19 : decode cX7_page 19 = .ok (.iload_n 1, 1) := by decide +kernel
theorem dX7_page_20 : decode cX7_page 20 = .ok (.iaload, 1) := by decide +kernel
theorem dX7_page_21 : decode cX7_page 21 = .ok (.goto 52, 3) := by decide +kernel
theorem dX7_page_24 : decode cX7_page 24 = .ok (.iload_n 2, 1) := by decide +kernel
theorem dX7_page_25 : decode cX7_page 25 = .ok (.iconst 1, 1) := by decide +kernel
theorem dX7_page_26 : decode cX7_page 26 = .ok (.if_icmp .ne 15, 3) := by decide +kernel
theorem dX7_page_29 : decode cX7_page 29 = .ok (.aload_n 0, 1) := by decide +kernel
theorem dX7_page_30 : decode cX7_page 30 = .ok (.getfield 7, 3) := by decide +kernel
theorem dX7_page_33 : decode cX7_page 33 = .ok (.bipush 40, 2) := by decide +kernel
theorem dX7_page_35 : decode cX7_page 35 = .ok (.iload_n 1, 1) := by decide +kernel
theorem dX7_page_36 : decode cX7_page 36 = .ok (.iadd, 1) := by decide +kernel
theorem dX7_page_37 : decode cX7_page 37 = .ok (.iaload, 1) := by decide +kernel
theorem dX7_page_38 : decode cX7_page 38 = .ok (.goto 35, 3) := by decide +kernel
theorem dX7_page_41 : decode cX7_page 41 = .ok (.iload_n 2, 1) := by decide +kernel
theorem dX7_page_42 : decode cX7_page 42 = .ok (.iconst 2, 1) := by decide +kernel
theorem dX7_page_43 : decode cX7_page 43 = .ok (.if_icmp .ne 15, 3) := by decide +kernel
theorem dX7_page_46 : decode cX7_page 46 = .ok (.aload_n 0, 1) := by decide +kernel
theorem dX7_page_47 : decode cX7_page 47 = .ok (.getfield 7, 3) := by decide +kernel
theorem dX7_page_50 : decode cX7_page 50 = .ok (.bipush 80, 2) := by decide +kernel
theorem dX7_page_52 : decode cX7_page 52 = .ok (.iload_n 1, 1) := by decide +kernel
theorem dX7_page_53 : decode cX7_page 53 = .ok (.iadd, 1) := by decide +kernel
theorem dX7_page_54 : decode cX7_page 54 = .ok (.iaload, 1) := by decide +kernel
theorem dX7_page_55 : decode cX7_page 55 = .ok (.goto 18, 3) := by decide +kernel
theorem dX7_page_58 : decode cX7_page 58 = .ok (.iload_n 2, 1) := by decide +kernel
theorem dX7_page_59 : decode cX7_page 59 = .ok (.iconst 3, 1) := by decide +kernel
theorem dX7_page_60 : decode cX7_page 60 = .ok (.if_icmp .ne 11, 3) := by decide +kernel
theorem dX7_page_63 : decode cX7_page 63 = .ok (.aload_n 0, 1) := by decide +kernel
theorem dX7_page_64 : decode cX7_page 64 = .ok (.iload_n 1, 1) := by decide +kernel
theorem dX7_page_65 : decode cX7_page 65 = .ok (.invokevirtual 178, 3) := by decide +kernel
theorem dX7_page_68 : decode cX7_page 68 = .ok (.goto 5, 3) := by decide +kernel
theorem dX7_page_71 : decode cX7_page 71 = .ok (.ldc 63, 2) := by decide +kernel
theorem dX7_page_73 : decode cX7_page 73 = .ok (.ireturn, 1) := by decide +kernel
theorem dX7_knows_0 : decode cX7_knows 0 = .ok (.aload_n 0, 1) := by decide +kernel
theorem dX7_knows_1 : decode cX7_knows 1 = .ok (.iload_n 1, 1) := by decide +kernel
theorem dX7_knows_2 : decode cX7_knows 2 = .ok (.invokevirtual 169, 3) := by decide +kernel
theorem dX7_knows_5 : decode cX7_knows 5 = .ok (.ifCond .eq 11, 3) := by decide +kernel
theorem dX7_knows_8 : decode cX7_knows 8 = .ok (.aload_n 0, 1) := by decide +kernel
theorem dX7_knows_9 : decode cX7_knows 9 = .ok (.iload_n 2, 1) := by decide +kernel
theorem dX7_knows_10 : decode cX7_knows 10 = .ok (.invokevirtual 161, 3) := by decide +kernel
theorem dX7_knows_13 : decode cX7_knows 13 = .ok (.ifCond .ne 6, 3) := by decide +kernel
theorem dX7_knows_16 : decode cX7_knows 16 = .ok (.ldc 165, 2) := by decide +kernel
theorem dX7_knows_18 : decode cX7_knows 18 = .ok (.ireturn, 1) := by decide +kernel
theorem dX7_knows_19 : decode cX7_knows 19 = .ok (.iload_n 3, 1) := by decide +kernel
theorem dX7_knows_20 : decode cX7_knows 20 = .ok (.ifCond .ne 21, 3) := by decide +kernel
theorem dX7_knows_23 : decode cX7_knows 23 = .ok (.aload_n 0, 1) := by decide +kernel
theorem dX7_knows_24 : decode cX7_knows 24 = .ok (.getfield 7, 3) := by decide +kernel
theorem dX7_knows_27 : decode cX7_knows 27 = .ok (.sipush 160, 3) := by decide +kernel
theorem dX7_knows_30 : decode cX7_knows 30 = .ok (.bipush 16, 2) := by decide +kernel
theorem dX7_knows_32 : decode cX7_knows 32 = .ok (.iload_n 1, 1) := by decide +kernel
theorem dX7_knows_33 : decode cX7_knows 33 = .ok (.imul, 1) := by decide +kernel
theorem dX7_knows_34 : decode cX7_knows 34 = .ok (.iadd, 1) := by decide +kernel
theorem dX7_knows_35 : decode cX7_knows 35 = .ok (.iload_n 2, 1) := by decide +kernel
theorem dX7_knows_36 : decode cX7_knows 36 = .ok (.iadd, 1) := by decide +kernel
theorem dX7_knows_37 : decode cX7_knows 37 = .ok (.iaload, 1) := by decide +kernel
theorem dX7_knows_38 : decode cX7_knows 38 = .ok (.goto 28, 3) := by decide +kernel
theorem dX7_knows_41 : decode cX7_knows 41 = .ok (.iload_n 3, 1) := by decide +kernel
theorem dX7_knows_42 : decode cX7_knows 42 = .ok (.iconst 1, 1) := by decide +kernel
theorem dX7_knows_43 : decode cX7_knows 43 = .ok (.if_icmp .ne 21, 3) := by decide +kernel
theorem dX7_knows_46 : decode cX7_knows 46 = .ok (.aload_n 0, 1) := by decide +kernel
theorem dX7_knows_47 : decode cX7_knows 47 = .ok (.getfield 7, 3) := by decide +kernel
theorem dX7_knows_50 : decode cX7_knows 50 = .ok (.sipush 288, 3) := by decide +kernel
theorem dX7_knows_53 : decode cX7_knows 53 = .ok (.bipush 16, 2) := by decide +kernel
theorem dX7_knows_55 : decode cX7_knows 55 = .ok (.iload_n 1, 1) := by decide +kernel
theorem dX7_knows_56 : decode cX7_knows 56 = .ok (.imul, 1) := by decide +kernel
theorem dX7_knows_57 : decode cX7_knows 57 = .ok (.iadd, 1) := by decide +kernel
theorem dX7_knows_58 : decode cX7_knows 58 = .ok (.iload_n 2, 1) := by decide +kernel
theorem dX7_knows_59 : decode cX7_knows 59 = .ok (.iadd, 1) := by decide +kernel
theorem dX7_knows_60 : decode cX7_knows 60 = .ok (.iaload, 1) := by decide +kernel
theorem dX7_knows_61 : decode cX7_knows 61 = .ok (.goto 5, 3) := by decide +kernel
theorem dX7_knows_64 : decode cX7_knows 64 = .ok (.ldc 63, 2) := by decide +kernel
theorem dX7_knows_66 : decode cX7_knows 66 = .ok (.ireturn, 1) := by decide +kernel
theorem dX7_reading_0 : decode cX7_reading 0 = .ok (.iload_n 2, 1) := by decide +kernel
theorem dX7_reading_1 : decode cX7_reading 1 = .ok (.i2l, 1) := by decide +kernel
theorem dX7_reading_2 : decode cX7_reading 2 = .ok (.lconst 0, 1) := by decide +kernel
theorem dX7_reading_3 : decode cX7_reading 3 = .ok (.ldc2_w 181, 3) := by decide +kernel
theorem dX7_reading_6 : decode cX7_reading 6 = .ok (.invokestatic 59, 3) := by decide +kernel
theorem dX7_reading_9 : decode cX7_reading 9 = .ok (.ifCond .ne 6, 3) := by decide +kernel
theorem dX7_reading_12 : decode cX7_reading 12 = .ok (.ldc 63, 2) := by decide +kernel
theorem dX7_reading_14 : decode cX7_reading 14 = .ok (.ireturn, 1) := by decide +kernel
theorem dX7_reading_15 : decode cX7_reading 15 = .ok (.iload_n 1, 1) := by decide +kernel
theorem dX7_reading_16 : decode cX7_reading 16 = .ok (.i2l, 1) := by decide +kernel
theorem dX7_reading_17 : decode cX7_reading 17 = .ok (.lconst 0, 1) := by decide +kernel
theorem dX7_reading_18 : decode cX7_reading 18 = .ok (.aload_n 0, 1) := by decide +kernel
theorem dX7_reading_19 : decode cX7_reading 19 = .ok (.getfield 7, 3) := by decide +kernel
theorem dX7_reading_22 : decode cX7_reading 22 = .ok (.sipush 1333, 3) := by decide +kernel
theorem dX7_reading_25 : decode cX7_reading 25 = .ok (.iaload, 1) := by decide +kernel
theorem dX7_reading_26 : decode cX7_reading 26 = .ok (.iconst 1, 1) := by decide +kernel
theorem dX7_reading_27 : decode cX7_reading 27 = .ok (.isub, 1) := by decide +kernel
theorem dX7_reading_28 : decode cX7_reading 28 = .ok (.i2l, 1) := by decide +kernel
theorem dX7_reading_29 : decode cX7_reading 29 = .ok (.invokestatic 59, 3) := by decide +kernel
theorem dX7_reading_32 : decode cX7_reading 32 = .ok (.ifCond .eq 22, 3) := by decide +kernel
theorem dX7_reading_35 : decode cX7_reading 35 = .ok (.aload_n 0, 1) := by decide +kernel
theorem dX7_reading_36 : decode cX7_reading 36 = .ok (.getfield 7, 3) := by decide +kernel
theorem dX7_reading_39 : decode cX7_reading 39 = .ok (.sipush 432, 3) := by decide +kernel
theorem dX7_reading_42 : decode cX7_reading 42 = .ok (.sipush 300, 3) := by decide +kernel
theorem dX7_reading_45 : decode cX7_reading 45 = .ok (.iload_n 2, 1) := by decide +kernel
theorem dX7_reading_46 : decode cX7_reading 46 = .ok (.imul, 1) := by decide +kernel
theorem dX7_reading_47 : decode cX7_reading 47 = .ok (.iadd, 1) := by decide +kernel
theorem dX7_reading_48 : decode cX7_reading 48 = .ok (.iload_n 1, 1) := by decide +kernel
theorem dX7_reading_49 : decode cX7_reading 49 = .ok (.iadd, 1) := by decide +kernel
theorem dX7_reading_50 : decode cX7_reading 50 = .ok (.iaload, 1) := by decide +kernel
theorem dX7_reading_51 : decode cX7_reading 51 = .ok (.goto 4, 3) := by decide +kernel
theorem dX7_reading_54 : decode cX7_reading 54 = .ok (.iconst (-1), 1) := by decide +kernel
theorem dX7_reading_55 : decode cX7_reading 55 = .ok (.ireturn, 1) := by decide +kernel
theorem dX7_know_0 : decode cX7_know 0 = .ok (.aload_n 0, 1) := by decide +kernel
theorem dX7_know_1 : decode cX7_know 1 = .ok (.getfield 7, 3) := by decide +kernel
theorem dX7_know_4 : decode cX7_know 4 = .ok (.iload_n 1, 1) := by decide +kernel
theorem dX7_know_5 : decode cX7_know 5 = .ok (.sipush 160, 3) := by decide +kernel
theorem dX7_know_8 : decode cX7_know 8 = .ok (.iadd, 1) := by decide +kernel
theorem dX7_know_9 : decode cX7_know 9 = .ok (.bipush 16, 2) := by decide +kernel
theorem dX7_know_11 : decode cX7_know 11 = .ok (.iload_n 2, 1) := by decide +kernel
theorem dX7_know_12 : decode cX7_know 12 = .ok (.imul, 1) := by decide +kernel
theorem dX7_know_13 : decode cX7_know 13 = .ok (.iadd, 1) := by decide +kernel
theorem dX7_know_14 : decode cX7_know 14 = .ok (.iload_n 3, 1) := by decide +kernel
theorem dX7_know_15 : decode cX7_know 15 = .ok (.iadd, 1) := by decide +kernel
theorem dX7_know_16 : decode cX7_know 16 = .ok (.iload 4, 2) := by decide +kernel
theorem dX7_know_18 : decode cX7_know 18 = .ok (.iastore, 1) := by decide +kernel
theorem dX7_know_19 : decode cX7_know 19 = .ok (.aload_n 0, 1) := by decide +kernel
theorem dX7_know_20 : decode cX7_know 20 = .ok (.getfield 7, 3) := by decide +kernel
theorem dX7_know_23 : decode cX7_know 23 = .ok (.iload_n 1, 1) := by decide +kernel
theorem dX7_know_24 : decode cX7_know 24 = .ok (.sipush 288, 3) := by decide +kernel
theorem dX7_know_27 : decode cX7_know 27 = .ok (.iadd, 1) := by decide +kernel
theorem dX7_know_28 : decode cX7_know 28 = .ok (.bipush 16, 2) := by decide +kernel
theorem dX7_know_30 : decode cX7_know 30 = .ok (.iload_n 2, 1) := by decide +kernel
theorem dX7_know_31 : decode cX7_know 31 = .ok (.imul, 1) := by decide +kernel
theorem dX7_know_32 : decode cX7_know 32 = .ok (.iadd, 1) := by decide +kernel
theorem dX7_know_33 : decode cX7_know 33 = .ok (.iload_n 3, 1) := by decide +kernel
theorem dX7_know_34 : decode cX7_know 34 = .ok (.iadd, 1) := by decide +kernel
theorem dX7_know_35 : decode cX7_know 35 = .ok (.aload_n 0, 1) := by decide +kernel
theorem dX7_know_36 : decode cX7_know 36 = .ok (.getfield 7, 3) := by decide +kernel
theorem dX7_know_39 : decode cX7_know 39 = .ok (.iload_n 1, 1) := by decide +kernel
theorem dX7_know_40 : decode cX7_know 40 = .ok (.sipush 1334, 3) := by decide +kernel
theorem dX7_know_43 : decode cX7_know 43 = .ok (.iadd, 1) := by decide +kernel
theorem dX7_know_44 : decode cX7_know 44 = .ok (.iaload, 1) := by decide +kernel
theorem dX7_know_45 : decode cX7_know 45 = .ok (.iastore, 1) := by decide +kernel
theorem dX7_know_46 : decode cX7_know 46 = .ok (.return_, 1) := by decide +kernel
theorem dX7_readPage_0 : decode cX7_readPage 0 = .ok (.aload_n 0, 1) := by decide +kernel
theorem dX7_readPage_1 : decode cX7_readPage 1 = .ok (.getfield 7, 3) := by decide +kernel
theorem dX7_readPage_4 : decode cX7_readPage 4 = .ok (.iload_n 1, 1) := by decide +kernel
theorem dX7_readPage_5 : decode cX7_readPage 5 = .ok (.bipush 80, 2) := by decide +kernel
theorem dX7_readPage_7 : decode cX7_readPage 7 = .ok (.iadd, 1) := by decide +kernel
theorem dX7_readPage_8 : decode cX7_readPage 8 = .ok (.iload_n 3, 1) := by decide +kernel
theorem dX7_readPage_9 : decode cX7_readPage 9 = .ok (.iadd, 1) := by decide +kernel
theorem dX7_readPage_10 : decode cX7_readPage 10 = .ok (.aload_n 0, 1) := by decide +kernel
theorem dX7_readPage_11 : decode cX7_readPage 11 = .ok (.getfield 23, 3) := by decide +kernel
theorem dX7_readPage_14 : decode cX7_readPage 14 = .ok (.iload_n 2, 1) := by decide +kernel
theorem dX7_readPage_15 : decode cX7_readPage 15 = .ok (.iaload, 1) := by decide +kernel
theorem dX7_readPage_16 : decode cX7_readPage 16 = .ok (.iconst 3, 1) := by decide +kernel
theorem dX7_readPage_17 : decode cX7_readPage 17 = .ok (.if_icmp .ne 8, 3) := by decide +kernel
theorem dX7_readPage_20 : decode cX7_readPage 20 = .ok (.bipush 9, 2) := by decide +kernel
theorem dX7_readPage_22 : decode cX7_readPage 22 = .ok (.goto 16, 3) := by decide +kernel
theorem dX7_readPage_25 : decode cX7_readPage 25 = .ok (.aload_n 0, 1) := by decide +kernel
theorem dX7_readPage_26 : decode cX7_readPage 26 = .ok (.getfield 7, 3) := by decide +kernel
theorem dX7_readPage_29 : decode cX7_readPage 29 = .ok (.iload_n 1, 1) := by decide +kernel
theorem dX7_readPage_30 : decode cX7_readPage 30 = .ok (.bipush 80, 2) := by decide +kernel
theorem dX7_readPage_32 : decode cX7_readPage 32 = .ok (.iadd, 1) := by decide +kernel
theorem dX7_readPage_33 : decode cX7_readPage 33 = .ok (.iload_n 3, 1) := by decide +kernel
theorem dX7_readPage_34 : decode cX7_readPage 34 = .ok (.iadd, 1) := by decide +kernel
theorem dX7_readPage_35 : decode cX7_readPage 35 = .ok (.iaload, 1) := by decide +kernel
theorem dX7_readPage_36 : decode cX7_readPage 36 = .ok (.iconst 1, 1) := by decide +kernel
theorem dX7_readPage_37 : decode cX7_readPage 37 = .ok (.iadd, 1) := by decide +kernel
theorem dX7_readPage_38 : decode cX7_readPage 38 = .ok (.iastore, 1) := by decide +kernel
theorem dX7_readPage_39 : decode cX7_readPage 39 = .ok (.iconst 0, 1) := by decide +kernel
theorem dX7_readPage_40 : decode cX7_readPage 40 = .ok (.istore 4, 2) := by decide +kernel
theorem dX7_readPage_42 : decode cX7_readPage 42 = .ok (.iload 4, 2) := by decide +kernel
theorem dX7_readPage_44 : decode cX7_readPage 44 = .ok (.aload_n 0, 1) := by decide +kernel
theorem dX7_readPage_45 : decode cX7_readPage 45 = .ok (.getfield 29, 3) := by decide +kernel
theorem dX7_readPage_48 : decode cX7_readPage 48 = .ok (.iconst 1, 1) := by decide +kernel
theorem dX7_readPage_49 : decode cX7_readPage 49 = .ok (.iaload, 1) := by decide +kernel
theorem dX7_readPage_50 : decode cX7_readPage 50 = .ok (.if_icmp .ge 51, 3) := by decide +kernel
theorem dX7_readPage_53 : decode cX7_readPage 53 = .ok (.iload 4, 2) := by decide +kernel
theorem dX7_readPage_55 : decode cX7_readPage 55 = .ok (.iload_n 2, 1) := by decide +kernel
theorem dX7_readPage_56 : decode cX7_readPage 56 = .ok (.if_icmp .eq 13, 3) := by decide +kernel
theorem dX7_readPage_59 : decode cX7_readPage 59 = .ok (.aload_n 0, 1) := by decide +kernel
theorem dX7_readPage_60 : decode cX7_readPage 60 = .ok (.getfield 23, 3) := by decide +kernel
theorem dX7_readPage_63 : decode cX7_readPage 63 = .ok (.iload_n 2, 1) := by decide +kernel
theorem dX7_readPage_64 : decode cX7_readPage 64 = .ok (.iaload, 1) := by decide +kernel
theorem dX7_readPage_65 : decode cX7_readPage 65 = .ok (.iconst 1, 1) := by decide +kernel
theorem dX7_readPage_66 : decode cX7_readPage 66 = .ok (.if_icmp .ne 29, 3) := by decide +kernel
theorem dX7_readPage_69 : decode cX7_readPage 69 = .ok (.aload_n 0, 1) := by decide +kernel
theorem dX7_readPage_70 : decode cX7_readPage 70 = .ok (.iload_n 1, 1) := by decide +kernel
theorem dX7_readPage_71 : decode cX7_readPage 71 = .ok (.iload 4, 2) := by decide +kernel
theorem dX7_readPage_73 : decode cX7_readPage 73 = .ok (.aload_n 0, 1) := by decide +kernel
theorem dX7_readPage_74 : decode cX7_readPage 74 = .ok (.getfield 7, 3) := by decide +kernel
theorem dX7_readPage_77 : decode cX7_readPage 77 = .ok (.iload_n 1, 1) := by decide +kernel
theorem dX7_readPage_78 : decode cX7_readPage 78 = .ok (.iload_n 3, 1) := by decide +kernel
theorem dX7_readPage_79 : decode cX7_readPage 79 = .ok (.iadd, 1) := by decide +kernel
theorem dX7_readPage_80 : decode cX7_readPage 80 = .ok (.iaload, 1) := by decide +kernel
theorem dX7_readPage_81 : decode cX7_readPage 81 = .ok (.aload_n 0, 1) := by decide +kernel
theorem dX7_readPage_82 : decode cX7_readPage 82 = .ok (.getfield 7, 3) := by decide +kernel
theorem dX7_readPage_85 : decode cX7_readPage 85 = .ok (.iload_n 1, 1) := by decide +kernel
theorem dX7_readPage_86 : decode cX7_readPage 86 = .ok (.bipush 40, 2) := by decide +kernel
theorem dX7_readPage_88 : decode cX7_readPage 88 = .ok (.iadd, 1) := by decide +kernel
theorem dX7_readPage_89 : decode cX7_readPage 89 = .ok (.iload_n 3, 1) := by decide +kernel
theorem dX7_readPage_90 : decode cX7_readPage 90 = .ok (.iadd, 1) := by decide +kernel
theorem dX7_readPage_91 : decode cX7_readPage 91 = .ok (.iaload, 1) := by decide +kernel
theorem dX7_readPage_92 : decode cX7_readPage 92 = .ok (.invokevirtual 183, 3) := by decide +kernel
theorem dX7_readPage_95 : decode cX7_readPage 95 = .ok (.iinc 4 1, 3) := by decide +kernel
theorem dX7_readPage_98 : decode cX7_readPage 98 = .ok (.goto (-56), 3) := by decide +kernel
theorem dX7_readPage_101 : decode cX7_readPage 101 = .ok (.aload_n 0, 1) := by decide +kernel
theorem dX7_readPage_102 : decode cX7_readPage 102 = .ok (.getfield 7, 3) := by decide +kernel
theorem dX7_readPage_105 : decode cX7_readPage 105 = .ok (.iload_n 1, 1) := by decide +kernel
theorem dX7_readPage_106 : decode cX7_readPage 106 = .ok (.sipush 1333, 3) := by decide +kernel
theorem dX7_readPage_109 : decode cX7_readPage 109 = .ok (.iadd, 1) := by decide +kernel
theorem dX7_readPage_110 : decode cX7_readPage 110 = .ok (.iaload, 1) := by decide +kernel
theorem dX7_readPage_111 : decode cX7_readPage 111 = .ok (.istore 4, 2) := by decide +kernel
theorem dX7_readPage_113 : decode cX7_readPage 113 = .ok (.iload 4, 2) := by decide +kernel
theorem dX7_readPage_115 : decode cX7_readPage 115 = .ok (.sipush 300, 3) := by decide +kernel
theorem dX7_readPage_118 : decode cX7_readPage 118 = .ok (.if_icmp .ge 68, 3) := by decide +kernel
theorem dX7_readPage_121 : decode cX7_readPage 121 = .ok (.aload_n 0, 1) := by decide +kernel
theorem dX7_readPage_122 : decode cX7_readPage 122 = .ok (.getfield 7, 3) := by decide +kernel
theorem dX7_readPage_125 : decode cX7_readPage 125 = .ok (.iload_n 1, 1) := by decide +kernel
theorem dX7_readPage_126 : decode cX7_readPage 126 = .ok (.sipush 432, 3) := by decide +kernel
theorem dX7_readPage_129 : decode cX7_readPage 129 = .ok (.iadd, 1) := by decide +kernel
theorem dX7_readPage_130 : decode cX7_readPage 130 = .ok (.iload 4, 2) := by decide +kernel
theorem dX7_readPage_132 : decode cX7_readPage 132 = .ok (.iadd, 1) := by decide +kernel
theorem dX7_readPage_133 : decode cX7_readPage 133 = .ok (.aload_n 0, 1) := by decide +kernel
theorem dX7_readPage_134 : decode cX7_readPage 134 = .ok (.getfield 7, 3) := by decide +kernel
theorem dX7_readPage_137 : decode cX7_readPage 137 = .ok (.iload_n 1, 1) := by decide +kernel
theorem dX7_readPage_138 : decode cX7_readPage 138 = .ok (.sipush 1334, 3) := by decide +kernel
theorem dX7_readPage_141 : decode cX7_readPage 141 = .ok (.iadd, 1) := by decide +kernel
theorem dX7_readPage_142 : decode cX7_readPage 142 = .ok (.iaload, 1) := by decide +kernel
theorem dX7_readPage_143 : decode cX7_readPage 143 = .ok (.iastore, 1) := by decide +kernel
theorem dX7_readPage_144 : decode cX7_readPage 144 = .ok (.aload_n 0, 1) := by decide +kernel
theorem dX7_readPage_145 : decode cX7_readPage 145 = .ok (.getfield 7, 3) := by decide +kernel
theorem dX7_readPage_148 : decode cX7_readPage 148 = .ok (.iload_n 1, 1) := by decide +kernel
theorem dX7_readPage_149 : decode cX7_readPage 149 = .ok (.sipush 732, 3) := by decide +kernel
theorem dX7_readPage_152 : decode cX7_readPage 152 = .ok (.iadd, 1) := by decide +kernel
theorem dX7_readPage_153 : decode cX7_readPage 153 = .ok (.iload 4, 2) := by decide +kernel
theorem dX7_readPage_155 : decode cX7_readPage 155 = .ok (.iadd, 1) := by decide +kernel
theorem dX7_readPage_156 : decode cX7_readPage 156 = .ok (.iload_n 3, 1) := by decide +kernel
theorem dX7_readPage_157 : decode cX7_readPage 157 = .ok (.iastore, 1) := by decide +kernel
theorem dX7_readPage_158 : decode cX7_readPage 158 = .ok (.aload_n 0, 1) := by decide +kernel
theorem dX7_readPage_159 : decode cX7_readPage 159 = .ok (.getfield 7, 3) := by decide +kernel
theorem dX7_readPage_162 : decode cX7_readPage 162 = .ok (.iload_n 1, 1) := by decide +kernel
theorem dX7_readPage_163 : decode cX7_readPage 163 = .ok (.sipush 1032, 3) := by decide +kernel
theorem dX7_readPage_166 : decode cX7_readPage 166 = .ok (.iadd, 1) := by decide +kernel
theorem dX7_readPage_167 : decode cX7_readPage 167 = .ok (.iload 4, 2) := by decide +kernel
theorem dX7_readPage_169 : decode cX7_readPage 169 = .ok (.iadd, 1) := by decide +kernel
theorem dX7_readPage_170 : decode cX7_readPage 170 = .ok (.iload_n 2, 1) := by decide +kernel
theorem dX7_readPage_171 : decode cX7_readPage 171 = .ok (.iastore, 1) := by decide +kernel
theorem dX7_readPage_172 : decode cX7_readPage 172 = .ok (.aload_n 0, 1) := by decide +kernel
theorem dX7_readPage_173 : decode cX7_readPage 173 = .ok (.getfield 7, 3) := by decide +kernel
theorem dX7_readPage_176 : decode cX7_readPage 176 = .ok (.iload_n 1, 1) := by decide +kernel
theorem dX7_readPage_177 : decode cX7_readPage 177 = .ok (.sipush 1333, 3) := by decide +kernel
theorem dX7_readPage_180 : decode cX7_readPage 180 = .ok (.iadd, 1) := by decide +kernel
theorem dX7_readPage_181 : decode cX7_readPage 181 = .ok (.iload 4, 2) := by decide +kernel
theorem dX7_readPage_183 : decode cX7_readPage 183 = .ok (.iconst 1, 1) := by decide +kernel
theorem dX7_readPage_184 : decode cX7_readPage 184 = .ok (.iadd, 1) := by decide +kernel
theorem dX7_readPage_185 : decode cX7_readPage 185 = .ok (.iastore, 1) := by decide +kernel
theorem dX7_readPage_186 : decode cX7_readPage 186 = .ok (.return_, 1) := by decide +kernel
theorem dX7_read_0 : decode cX7_read 0 = .ok (.aload_n 0, 1) := by decide +kernel
theorem dX7_read_1 : decode cX7_read 1 = .ok (.iload_n 1, 1) := by decide +kernel
theorem dX7_read_2 : decode cX7_read 2 = .ok (.invokevirtual 169, 3) := by decide +kernel
theorem dX7_read_5 : decode cX7_read 5 = .ok (.ifCond .eq 11, 3) := by decide +kernel
theorem dX7_read_8 : decode cX7_read 8 = .ok (.aload_n 0, 1) := by decide +kernel
theorem dX7_read_9 : decode cX7_read 9 = .ok (.iload_n 2, 1) := by decide +kernel
theorem dX7_read_10 : decode cX7_read 10 = .ok (.invokevirtual 175, 3) := by decide +kernel
theorem dX7_read_13 : decode cX7_read 13 = .ok (.ifCond .ne 6, 3) := by decide +kernel
theorem dX7_read_16 : decode cX7_read 16 = .ok (.ldc 165, 2) := by decide +kernel
theorem dX7_read_18 : decode cX7_read 18 = .ok (.ireturn, 1) := by decide +kernel
theorem dX7_read_19 : decode cX7_read 19 = .ok (.aload_n 0, 1) := by decide +kernel
theorem dX7_read_20 : decode cX7_read 20 = .ok (.getfield 7, 3) := by decide +kernel
theorem dX7_read_23 : decode cX7_read 23 = .ok (.bipush 80, 2) := by decide +kernel
theorem dX7_read_25 : decode cX7_read 25 = .ok (.iload_n 2, 1) := by decide +kernel
theorem dX7_read_26 : decode cX7_read 26 = .ok (.iadd, 1) := by decide +kernel
theorem dX7_read_27 : decode cX7_read 27 = .ok (.iaload, 1) := by decide +kernel
theorem dX7_read_28 : decode cX7_read 28 = .ok (.bipush 9, 2) := by decide +kernel
theorem dX7_read_30 : decode cX7_read 30 = .ok (.if_icmp .ne 6, 3) := by decide +kernel
theorem dX7_read_33 : decode cX7_read 33 = .ok (.ldc 187, 2) := by decide +kernel
theorem dX7_read_35 : decode cX7_read 35 = .ok (.ireturn, 1) := by decide +kernel
theorem dX7_read_36 : decode cX7_read 36 = .ok (.aload_n 0, 1) := by decide +kernel
theorem dX7_read_37 : decode cX7_read 37 = .ok (.iconst 0, 1) := by decide +kernel
theorem dX7_read_38 : decode cX7_read 38 = .ok (.iload_n 1, 1) := by decide +kernel
theorem dX7_read_39 : decode cX7_read 39 = .ok (.iload_n 2, 1) := by decide +kernel
theorem dX7_read_40 : decode cX7_read 40 = .ok (.invokevirtual 188, 3) := by decide +kernel
theorem dX7_read_43 : decode cX7_read 43 = .ok (.aload_n 0, 1) := by decide +kernel
theorem dX7_read_44 : decode cX7_read 44 = .ok (.getfield 7, 3) := by decide +kernel
theorem dX7_read_47 : decode cX7_read 47 = .ok (.bipush 80, 2) := by decide +kernel
theorem dX7_read_49 : decode cX7_read 49 = .ok (.iload_n 2, 1) := by decide +kernel
theorem dX7_read_50 : decode cX7_read 50 = .ok (.iadd, 1) := by decide +kernel
theorem dX7_read_51 : decode cX7_read 51 = .ok (.iaload, 1) := by decide +kernel
theorem dX7_read_52 : decode cX7_read 52 = .ok (.ireturn, 1) := by decide +kernel
theorem dX7_draw_0 : decode cX7_draw 0 = .ok (.aload_n 0, 1) := by decide +kernel
theorem dX7_draw_1 : decode cX7_draw 1 = .ok (.getfield 7, 3) := by decide +kernel
theorem dX7_draw_4 : decode cX7_draw 4 = .ok (.iload_n 1, 1) := by decide +kernel
theorem dX7_draw_5 : decode cX7_draw 5 = .ok (.sipush 1335, 3) := by decide +kernel
theorem dX7_draw_8 : decode cX7_draw 8 = .ok (.iadd, 1) := by decide +kernel
theorem dX7_draw_9 : decode cX7_draw 9 = .ok (.aload_n 0, 1) := by decide +kernel
theorem dX7_draw_10 : decode cX7_draw 10 = .ok (.getfield 7, 3) := by decide +kernel
theorem dX7_draw_13 : decode cX7_draw 13 = .ok (.iload_n 1, 1) := by decide +kernel
theorem dX7_draw_14 : decode cX7_draw 14 = .ok (.sipush 1335, 3) := by decide +kernel
theorem dX7_draw_17 : decode cX7_draw 17 = .ok (.iadd, 1) := by decide +kernel
theorem dX7_draw_18 : decode cX7_draw 18 = .ok (.iaload, 1) := by decide +kernel
theorem dX7_draw_19 : decode cX7_draw 19 = .ok (.i2l, 1) := by decide +kernel
theorem dX7_draw_20 : decode cX7_draw 20 = .ok (.ldc2_w 192, 3) := by decide +kernel
theorem dX7_draw_23 : decode cX7_draw 23 = .ok (.lmul, 1) := by decide +kernel
theorem dX7_draw_24 : decode cX7_draw 24 = .ok (.ldc2_w 194, 3) := by decide +kernel
theorem dX7_draw_27 : decode cX7_draw 27 = .ok (.ladd, 1) := by decide +kernel
theorem dX7_draw_28 : decode cX7_draw 28 = .ok (.ldc2_w 196, 3) := by decide +kernel
theorem dX7_draw_31 : decode cX7_draw 31 = .ok (.lrem, 1) := by decide +kernel
theorem dX7_draw_32 : decode cX7_draw 32 = .ok (.l2i, 1) := by decide +kernel
theorem dX7_draw_33 : decode cX7_draw 33 = .ok (.iastore, 1) := by decide +kernel
theorem dX7_draw_34 : decode cX7_draw 34 = .ok (.aload_n 0, 1) := by decide +kernel
theorem dX7_draw_35 : decode cX7_draw 35 = .ok (.getfield 7, 3) := by decide +kernel
theorem dX7_draw_38 : decode cX7_draw 38 = .ok (.iload_n 1, 1) := by decide +kernel
theorem dX7_draw_39 : decode cX7_draw 39 = .ok (.sipush 1335, 3) := by decide +kernel
theorem dX7_draw_42 : decode cX7_draw 42 = .ok (.iadd, 1) := by decide +kernel
theorem dX7_draw_43 : decode cX7_draw 43 = .ok (.iaload, 1) := by decide +kernel
theorem dX7_draw_44 : decode cX7_draw 44 = .ok (.ldc 198, 2) := by decide +kernel
theorem dX7_draw_46 : decode cX7_draw 46 = .ok (.idiv, 1) := by decide +kernel
theorem dX7_draw_47 : decode cX7_draw 47 = .ok (.iload_n 2, 1) := by decide +kernel
theorem dX7_draw_48 : decode cX7_draw 48 = .ok (.irem, 1) := by decide +kernel
theorem dX7_draw_49 : decode cX7_draw 49 = .ok (.ireturn, 1) := by decide +kernel
theorem dX7_make_0 : decode cX7_make 0 = .ok (.aload_n 0, 1) := by decide +kernel
theorem dX7_make_1 : decode cX7_make 1 = .ok (.getfield 7, 3) := by decide +kernel
theorem dX7_make_4 : decode cX7_make 4 = .ok (.sipush 1332, 3) := by decide +kernel
theorem dX7_make_7 : decode cX7_make 7 = .ok (.iaload, 1) := by decide +kernel
theorem dX7_make_8 : decode cX7_make 8 = .ok (.istore 4, 2) := by decide +kernel
theorem dX7_make_10 : decode cX7_make 10 = .ok (.aload_n 0, 1) := by decide +kernel
theorem dX7_make_11 : decode cX7_make 11 = .ok (.getfield 7, 3) := by decide +kernel
theorem dX7_make_14 : decode cX7_make 14 = .ok (.iload 4, 2) := by decide +kernel
theorem dX7_make_16 : decode cX7_make 16 = .ok (.iload_n 2, 1) := by decide +kernel
theorem dX7_make_17 : decode cX7_make 17 = .ok (.iastore, 1) := by decide +kernel
theorem dX7_make_18 : decode cX7_make 18 = .ok (.aload_n 0, 1) := by decide +kernel
theorem dX7_make_19 : decode cX7_make 19 = .ok (.getfield 7, 3) := by decide +kernel
theorem dX7_make_22 : decode cX7_make 22 = .ok (.bipush 40, 2) := by decide +kernel
theorem dX7_make_24 : decode cX7_make 24 = .ok (.iload 4, 2) := by decide +kernel
theorem dX7_make_26 : decode cX7_make 26 = .ok (.iadd, 1) := by decide +kernel
theorem dX7_make_27 : decode cX7_make 27 = .ok (.aload_n 0, 1) := by decide +kernel
theorem dX7_make_28 : decode cX7_make 28 = .ok (.iconst 0, 1) := by decide +kernel
theorem dX7_make_29 : decode cX7_make 29 = .ok (.bipush 100, 2) := by decide +kernel
theorem dX7_make_31 : decode cX7_make 31 = .ok (.invokevirtual 199, 3) := by decide +kernel
theorem dX7_make_34 : decode cX7_make 34 = .ok (.aload_n 0, 1) := by decide +kernel
theorem dX7_make_35 : decode cX7_make 35 = .ok (.getfield 32, 3) := by decide +kernel
theorem dX7_make_38 : decode cX7_make 38 = .ok (.if_icmp .ge 10, 3) := by decide +kernel
theorem dX7_make_41 : decode cX7_make 41 = .ok (.iload 4, 2) := by decide +kernel
theorem dX7_make_43 : decode cX7_make 43 = .ok (.iconst 1, 1) := by decide +kernel
theorem dX7_make_44 : decode cX7_make 44 = .ok (.iadd, 1) := by decide +kernel
theorem dX7_make_45 : decode cX7_make 45 = .ok (.goto 4, 3) := by decide +kernel
theorem dX7_make_48 : decode cX7_make 48 = .ok (.iload_n 3, 1) := by decide +kernel
theorem dX7_make_49 : decode cX7_make 49 = .ok (.iastore, 1) := by decide +kernel
theorem dX7_make_50 : decode cX7_make 50 = .ok (.aload_n 0, 1) := by decide +kernel
theorem dX7_make_51 : decode cX7_make 51 = .ok (.getfield 7, 3) := by decide +kernel
theorem dX7_make_54 : decode cX7_make 54 = .ok (.bipush 80, 2) := by decide +kernel
theorem dX7_make_56 : decode cX7_make 56 = .ok (.iload 4, 2) := by decide +kernel
theorem dX7_make_58 : decode cX7_make 58 = .ok (.iadd, 1) := by decide +kernel
theorem dX7_make_59 : decode cX7_make 59 = .ok (.iconst 0, 1) := by decide +kernel
theorem dX7_make_60 : decode cX7_make 60 = .ok (.iastore, 1) := by decide +kernel
theorem dX7_make_61 : decode cX7_make 61 = .ok (.aload_n 0, 1) := by decide +kernel
theorem dX7_make_62 : decode cX7_make 62 = .ok (.getfield 7, 3) := by decide +kernel
theorem dX7_make_65 : decode cX7_make 65 = .ok (.bipush 120, 2) := by decide +kernel
theorem dX7_make_67 : decode cX7_make 67 = .ok (.iload 4, 2) := by decide +kernel
theorem dX7_make_69 : decode cX7_make 69 = .ok (.iadd, 1) := by decide +kernel
theorem dX7_make_70 : decode cX7_make 70 = .ok (.iload_n 1, 1) := by decide +kernel
theorem dX7_make_71 : decode cX7_make 71 = .ok (.iastore, 1) := by decide +kernel
theorem dX7_make_72 : decode cX7_make 72 = .ok (.aload_n 0, 1) := by decide +kernel
theorem dX7_make_73 : decode cX7_make 73 = .ok (.getfield 7, 3) := by decide +kernel
theorem dX7_make_76 : decode cX7_make 76 = .ok (.sipush 1332, 3) := by decide +kernel
theorem dX7_make_79 : decode cX7_make 79 = .ok (.iload 4, 2) := by decide +kernel
theorem dX7_make_81 : decode cX7_make 81 = .ok (.iconst 1, 1) := by decide +kernel
theorem dX7_make_82 : decode cX7_make 82 = .ok (.iadd, 1) := by decide +kernel
theorem dX7_make_83 : decode cX7_make 83 = .ok (.iastore, 1) := by decide +kernel
theorem dX7_make_84 : decode cX7_make 84 = .ok (.iload 4, 2) := by decide +kernel
theorem dX7_make_86 : decode cX7_make 86 = .ok (.ireturn, 1) := by decide +kernel
theorem dX7_copy_0 : decode cX7_copy 0 = .ok (.aload_n 0, 1) := by decide +kernel
theorem dX7_copy_1 : decode cX7_copy 1 = .ok (.iload_n 1, 1) := by decide +kernel
theorem dX7_copy_2 : decode cX7_copy 2 = .ok (.invokevirtual 169, 3) := by decide +kernel
theorem dX7_copy_5 : decode cX7_copy 5 = .ok (.ifCond .eq 11, 3) := by decide +kernel
theorem dX7_copy_8 : decode cX7_copy 8 = .ok (.aload_n 0, 1) := by decide +kernel
theorem dX7_copy_9 : decode cX7_copy 9 = .ok (.iload_n 2, 1) := by decide +kernel
theorem dX7_copy_10 : decode cX7_copy 10 = .ok (.invokevirtual 175, 3) := by decide +kernel
theorem dX7_copy_13 : decode cX7_copy 13 = .ok (.ifCond .ne 6, 3) := by decide +kernel
theorem dX7_copy_16 : decode cX7_copy 16 = .ok (.ldc 165, 2) := by decide +kernel
theorem dX7_copy_18 : decode cX7_copy 18 = .ok (.ireturn, 1) := by decide +kernel
theorem dX7_copy_19 : decode cX7_copy 19 = .ok (.aload_n 0, 1) := by decide +kernel
theorem dX7_copy_20 : decode cX7_copy 20 = .ok (.getfield 23, 3) := by decide +kernel
theorem dX7_copy_23 : decode cX7_copy 23 = .ok (.iload_n 1, 1) := by decide +kernel
theorem dX7_copy_24 : decode cX7_copy 24 = .ok (.iaload, 1) := by decide +kernel
theorem dX7_copy_25 : decode cX7_copy 25 = .ok (.iconst 2, 1) := by decide +kernel
theorem dX7_copy_26 : decode cX7_copy 26 = .ok (.if_icmp .ne 17, 3) := by decide +kernel
theorem dX7_copy_29 : decode cX7_copy 29 = .ok (.aload_n 0, 1) := by decide +kernel
theorem dX7_copy_30 : decode cX7_copy 30 = .ok (.getfield 7, 3) := by decide +kernel
theorem dX7_copy_33 : decode cX7_copy 33 = .ok (.bipush 80, 2) := by decide +kernel
theorem dX7_copy_35 : decode cX7_copy 35 = .ok (.iload_n 2, 1) := by decide +kernel
theorem dX7_copy_36 : decode cX7_copy 36 = .ok (.iadd, 1) := by decide +kernel
theorem dX7_copy_37 : decode cX7_copy 37 = .ok (.iaload, 1) := by decide +kernel
theorem dX7_copy_38 : decode cX7_copy 38 = .ok (.bipush 9, 2) := by decide +kernel
theorem dX7_copy_40 : decode cX7_copy 40 = .ok (.if_icmp .ne 6, 3) := by decide +kernel
theorem dX7_copy_43 : decode cX7_copy 43 = .ok (.ldc 187, 2) := by decide +kernel
theorem dX7_copy_45 : decode cX7_copy 45 = .ok (.ireturn, 1) := by decide +kernel
theorem dX7_copy_46 : decode cX7_copy 46 = .ok (.aload_n 0, 1) := by decide +kernel
theorem dX7_copy_47 : decode cX7_copy 47 = .ok (.getfield 7, 3) := by decide +kernel
theorem dX7_copy_50 : decode cX7_copy 50 = .ok (.sipush 1332, 3) := by decide +kernel
theorem dX7_copy_53 : decode cX7_copy 53 = .ok (.iaload, 1) := by decide +kernel
theorem dX7_copy_54 : decode cX7_copy 54 = .ok (.bipush 40, 2) := by decide +kernel
theorem dX7_copy_56 : decode cX7_copy 56 = .ok (.if_icmp .ne 6, 3) := by decide +kernel
theorem dX7_copy_59 : decode cX7_copy 59 = .ok (.ldc 67, 2) := by decide +kernel
theorem dX7_copy_61 : decode cX7_copy 61 = .ok (.ireturn, 1) := by decide +kernel
theorem dX7_copy_62 : decode cX7_copy 62 = .ok (.aload_n 0, 1) := by decide +kernel
theorem dX7_copy_63 : decode cX7_copy 63 = .ok (.iconst 0, 1) := by decide +kernel
theorem dX7_copy_64 : decode cX7_copy 64 = .ok (.iload_n 1, 1) := by decide +kernel
theorem dX7_copy_65 : decode cX7_copy 65 = .ok (.iload_n 2, 1) := by decide +kernel
theorem dX7_copy_66 : decode cX7_copy 66 = .ok (.invokevirtual 188, 3) := by decide +kernel
theorem dX7_copy_69 : decode cX7_copy 69 = .ok (.aload_n 0, 1) := by decide +kernel
theorem dX7_copy_70 : decode cX7_copy 70 = .ok (.iload_n 1, 1) := by decide +kernel
theorem dX7_copy_71 : decode cX7_copy 71 = .ok (.aload_n 0, 1) := by decide +kernel
theorem dX7_copy_72 : decode cX7_copy 72 = .ok (.getfield 7, 3) := by decide +kernel
theorem dX7_copy_75 : decode cX7_copy 75 = .ok (.iload_n 2, 1) := by decide +kernel
theorem dX7_copy_76 : decode cX7_copy 76 = .ok (.iaload, 1) := by decide +kernel
theorem dX7_copy_77 : decode cX7_copy 77 = .ok (.aload_n 0, 1) := by decide +kernel
theorem dX7_copy_78 : decode cX7_copy 78 = .ok (.getfield 7, 3) := by decide +kernel
theorem dX7_copy_81 : decode cX7_copy 81 = .ok (.bipush 40, 2) := by decide +kernel
theorem dX7_copy_83 : decode cX7_copy 83 = .ok (.iload_n 2, 1) := by decide +kernel
theorem dX7_copy_84 : decode cX7_copy 84 = .ok (.iadd, 1) := by decide +kernel
theorem dX7_copy_85 : decode cX7_copy 85 = .ok (.iaload, 1) := by decide +kernel
theorem dX7_copy_86 : decode cX7_copy 86 = .ok (.invokevirtual 202, 3) := by decide +kernel
theorem dX7_copy_89 : decode cX7_copy 89 = .ok (.ireturn, 1) := by decide +kernel
theorem dX7_write_0 : decode cX7_write 0 = .ok (.aload_n 0, 1) := by decide +kernel
theorem dX7_write_1 : decode cX7_write 1 = .ok (.iload_n 1, 1) := by decide +kernel
theorem dX7_write_2 : decode cX7_write 2 = .ok (.invokevirtual 169, 3) := by decide +kernel
theorem dX7_write_5 : decode cX7_write 5 = .ok (.ifCond .eq 11, 3) := by decide +kernel
theorem dX7_write_8 : decode cX7_write 8 = .ok (.aload_n 0, 1) := by decide +kernel
theorem dX7_write_9 : decode cX7_write 9 = .ok (.iload_n 2, 1) := by decide +kernel
theorem dX7_write_10 : decode cX7_write 10 = .ok (.invokevirtual 161, 3) := by decide +kernel
theorem dX7_write_13 : decode cX7_write 13 = .ok (.ifCond .ne 6, 3) := by decide +kernel
theorem dX7_write_16 : decode cX7_write 16 = .ok (.ldc 165, 2) := by decide +kernel
theorem dX7_write_18 : decode cX7_write 18 = .ok (.ireturn, 1) := by decide +kernel
theorem dX7_write_19 : decode cX7_write 19 = .ok (.aload_n 0, 1) := by decide +kernel
theorem dX7_write_20 : decode cX7_write 20 = .ok (.getfield 7, 3) := by decide +kernel
theorem dX7_write_23 : decode cX7_write 23 = .ok (.sipush 160, 3) := by decide +kernel
theorem dX7_write_26 : decode cX7_write 26 = .ok (.bipush 16, 2) := by decide +kernel
theorem dX7_write_28 : decode cX7_write 28 = .ok (.iload_n 1, 1) := by decide +kernel
theorem dX7_write_29 : decode cX7_write 29 = .ok (.imul, 1) := by decide +kernel
theorem dX7_write_30 : decode cX7_write 30 = .ok (.iadd, 1) := by decide +kernel
theorem dX7_write_31 : decode cX7_write 31 = .ok (.iload_n 2, 1) := by decide +kernel
theorem dX7_write_32 : decode cX7_write 32 = .ok (.iadd, 1) := by decide +kernel
theorem dX7_write_33 : decode cX7_write 33 = .ok (.iaload, 1) := by decide +kernel
theorem dX7_write_34 : decode cX7_write 34 = .ok (.istore_n 3, 1) := by decide +kernel
theorem dX7_write_35 : decode cX7_write 35 = .ok (.aload_n 0, 1) := by decide +kernel
theorem dX7_write_36 : decode cX7_write 36 = .ok (.getfield 23, 3) := by decide +kernel
theorem dX7_write_39 : decode cX7_write 39 = .ok (.iload_n 1, 1) := by decide +kernel
theorem dX7_write_40 : decode cX7_write 40 = .ok (.iaload, 1) := by decide +kernel
theorem dX7_write_41 : decode cX7_write 41 = .ok (.iconst 2, 1) := by decide +kernel
theorem dX7_write_42 : decode cX7_write 42 = .ok (.if_icmp .ne 7, 3) := by decide +kernel
theorem dX7_write_45 : decode cX7_write 45 = .ok (.iload_n 3, 1) := by decide +kernel
theorem dX7_write_46 : decode cX7_write 46 = .ok (.ifCond .ge 6, 3) := by decide +kernel
theorem dX7_write_49 : decode cX7_write 49 = .ok (.ldc 187, 2) := by decide +kernel
theorem dX7_write_51 : decode cX7_write 51 = .ok (.ireturn, 1) := by decide +kernel
theorem dX7_write_52 : decode cX7_write 52 = .ok (.aload_n 0, 1) := by decide +kernel
theorem dX7_write_53 : decode cX7_write 53 = .ok (.getfield 7, 3) := by decide +kernel
theorem dX7_write_56 : decode cX7_write 56 = .ok (.sipush 1332, 3) := by decide +kernel
theorem dX7_write_59 : decode cX7_write 59 = .ok (.iaload, 1) := by decide +kernel
theorem dX7_write_60 : decode cX7_write 60 = .ok (.bipush 40, 2) := by decide +kernel
theorem dX7_write_62 : decode cX7_write 62 = .ok (.if_icmp .ne 8, 3) := by decide +kernel
theorem dX7_write_65 : decode cX7_write 65 = .ok (.ldc 67, 2) := by decide +kernel
theorem dX7_write_67 : decode cX7_write 67 = .ok (.goto 10, 3) := by decide +kernel
theorem dX7_write_70 : decode cX7_write 70 = .ok (.aload_n 0, 1) := by decide +kernel
theorem dX7_write_71 : decode cX7_write 71 = .ok (.iload_n 1, 1) := by decide +kernel
theorem dX7_write_72 : decode cX7_write 72 = .ok (.iload_n 2, 1) := by decide +kernel
theorem dX7_write_73 : decode cX7_write 73 = .ok (.iload_n 3, 1) := by decide +kernel
theorem dX7_write_74 : decode cX7_write 74 = .ok (.invokevirtual 202, 3) := by decide +kernel
theorem dX7_write_77 : decode cX7_write 77 = .ok (.ireturn, 1) := by decide +kernel
theorem dX7_teach_0 : decode cX7_teach 0 = .ok (.aload_n 0, 1) := by decide +kernel
theorem dX7_teach_1 : decode cX7_teach 1 = .ok (.iload_n 1, 1) := by decide +kernel
theorem dX7_teach_2 : decode cX7_teach 2 = .ok (.invokevirtual 169, 3) := by decide +kernel
theorem dX7_teach_5 : decode cX7_teach 5 = .ok (.ifCond .eq 24, 3) := by decide +kernel
theorem dX7_teach_8 : decode cX7_teach 8 = .ok (.aload_n 0, 1) := by decide +kernel
theorem dX7_teach_9 : decode cX7_teach 9 = .ok (.iload_n 2, 1) := by decide +kernel
theorem dX7_teach_10 : decode cX7_teach 10 = .ok (.invokevirtual 169, 3) := by decide +kernel
theorem dX7_teach_13 : decode cX7_teach 13 = .ok (.ifCond .eq 16, 3) := by decide +kernel
theorem dX7_teach_16 : decode cX7_teach 16 = .ok (.iload_n 1, 1) := by decide +kernel
theorem dX7_teach_17 : decode cX7_teach 17 = .ok (.iload_n 2, 1) := by decide +kernel
theorem dX7_teach_18 : decode cX7_teach 18 = .ok (.if_icmp .eq 11, 3) := by decide +kernel
theorem dX7_teach_21 : decode cX7_teach 21 = .ok (.aload_n 0, 1) := by decide +kernel
theorem dX7_teach_22 : decode cX7_teach 22 = .ok (.iload_n 3, 1) := by decide +kernel
theorem dX7_teach_23 : decode cX7_teach 23 = .ok (.invokevirtual 161, 3) := by decide +kernel
theorem dX7_teach_26 : decode cX7_teach 26 = .ok (.ifCond .ne 6, 3) := by decide +kernel
theorem dX7_teach_29 : decode cX7_teach 29 = .ok (.ldc 165, 2) := by decide +kernel
theorem dX7_teach_31 : decode cX7_teach 31 = .ok (.ireturn, 1) := by decide +kernel
theorem dX7_teach_32 : decode cX7_teach 32 = .ok (.aload_n 0, 1) := by decide +kernel
theorem dX7_teach_33 : decode cX7_teach 33 = .ok (.getfield 7, 3) := by decide +kernel
theorem dX7_teach_36 : decode cX7_teach 36 = .ok (.sipush 160, 3) := by decide +kernel
theorem dX7_teach_39 : decode cX7_teach 39 = .ok (.bipush 16, 2) := by decide +kernel
theorem dX7_teach_41 : decode cX7_teach 41 = .ok (.iload_n 1, 1) := by decide +kernel
theorem dX7_teach_42 : decode cX7_teach 42 = .ok (.imul, 1) := by decide +kernel
theorem dX7_teach_43 : decode cX7_teach 43 = .ok (.iadd, 1) := by decide +kernel
theorem dX7_teach_44 : decode cX7_teach 44 = .ok (.iload_n 3, 1) := by decide +kernel
theorem dX7_teach_45 : decode cX7_teach 45 = .ok (.iadd, 1) := by decide +kernel
theorem dX7_teach_46 : decode cX7_teach 46 = .ok (.iaload, 1) := by decide +kernel
theorem dX7_teach_47 : decode cX7_teach 47 = .ok (.istore 4, 2) := by decide +kernel
theorem dX7_teach_49 : decode cX7_teach 49 = .ok (.aload_n 0, 1) := by decide +kernel
theorem dX7_teach_50 : decode cX7_teach 50 = .ok (.getfield 23, 3) := by decide +kernel
theorem dX7_teach_53 : decode cX7_teach 53 = .ok (.iload_n 1, 1) := by decide +kernel
theorem dX7_teach_54 : decode cX7_teach 54 = .ok (.iaload, 1) := by decide +kernel
theorem dX7_teach_55 : decode cX7_teach 55 = .ok (.iconst 4, 1) := by decide +kernel
theorem dX7_teach_56 : decode cX7_teach 56 = .ok (.if_icmp .ne 8, 3) := by decide +kernel
theorem dX7_teach_59 : decode cX7_teach 59 = .ok (.iload 4, 2) := by decide +kernel
theorem dX7_teach_61 : decode cX7_teach 61 = .ok (.ifCond .ge 6, 3) := by decide +kernel
theorem dX7_teach_64 : decode cX7_teach 64 = .ok (.ldc 187, 2) := by decide +kernel
theorem dX7_teach_66 : decode cX7_teach 66 = .ok (.ireturn, 1) := by decide +kernel
theorem dX7_teach_67 : decode cX7_teach 67 = .ok (.aload_n 0, 1) := by decide +kernel
theorem dX7_teach_68 : decode cX7_teach 68 = .ok (.iconst 0, 1) := by decide +kernel
theorem dX7_teach_69 : decode cX7_teach 69 = .ok (.iload_n 1, 1) := by decide +kernel
theorem dX7_teach_70 : decode cX7_teach 70 = .ok (.iload_n 3, 1) := by decide +kernel
theorem dX7_teach_71 : decode cX7_teach 71 = .ok (.iload 4, 2) := by decide +kernel
theorem dX7_teach_73 : decode cX7_teach 73 = .ok (.invokevirtual 183, 3) := by decide +kernel
theorem dX7_teach_76 : decode cX7_teach 76 = .ok (.aload_n 0, 1) := by decide +kernel
theorem dX7_teach_77 : decode cX7_teach 77 = .ok (.iconst 0, 1) := by decide +kernel
theorem dX7_teach_78 : decode cX7_teach 78 = .ok (.iload_n 2, 1) := by decide +kernel
theorem dX7_teach_79 : decode cX7_teach 79 = .ok (.iload_n 3, 1) := by decide +kernel
theorem dX7_teach_80 : decode cX7_teach 80 = .ok (.iload 4, 2) := by decide +kernel
theorem dX7_teach_82 : decode cX7_teach 82 = .ok (.invokevirtual 183, 3) := by decide +kernel
theorem dX7_teach_85 : decode cX7_teach 85 = .ok (.iload 4, 2) := by decide +kernel
theorem dX7_teach_87 : decode cX7_teach 87 = .ok (.ireturn, 1) := by decide +kernel
theorem dX7_darken_0 : decode cX7_darken 0 = .ok (.aload_n 0, 1) := by decide +kernel
theorem dX7_darken_1 : decode cX7_darken 1 = .ok (.getfield 7, 3) := by decide +kernel
theorem dX7_darken_4 : decode cX7_darken 4 = .ok (.iload_n 1, 1) := by decide +kernel
theorem dX7_darken_5 : decode cX7_darken 5 = .ok (.sipush 1334, 3) := by decide +kernel
theorem dX7_darken_8 : decode cX7_darken 8 = .ok (.iadd, 1) := by decide +kernel
theorem dX7_darken_9 : decode cX7_darken 9 = .ok (.iaload, 1) := by decide +kernel
theorem dX7_darken_10 : decode cX7_darken 10 = .ok (.sipush 9999, 3) := by decide +kernel
theorem dX7_darken_13 : decode cX7_darken 13 = .ok (.if_icmp .ge 138, 3) := by decide +kernel
theorem dX7_darken_16 : decode cX7_darken 16 = .ok (.aload_n 0, 1) := by decide +kernel
theorem dX7_darken_17 : decode cX7_darken 17 = .ok (.getfield 7, 3) := by decide +kernel
theorem dX7_darken_20 : decode cX7_darken 20 = .ok (.iload_n 1, 1) := by decide +kernel
theorem dX7_darken_21 : decode cX7_darken 21 = .ok (.sipush 1334, 3) := by decide +kernel
theorem dX7_darken_24 : decode cX7_darken 24 = .ok (.iadd, 1) := by decide +kernel
theorem dX7_darken_25 : decode cX7_darken 25 = .ok (.dup2, 1) := by decide +kernel
theorem dX7_darken_26 : decode cX7_darken 26 = .ok (.iaload, 1) := by decide +kernel
theorem dX7_darken_27 : decode cX7_darken 27 = .ok (.iconst 1, 1) := by decide +kernel
theorem dX7_darken_28 : decode cX7_darken 28 = .ok (.iadd, 1) := by decide +kernel
theorem dX7_darken_29 : decode cX7_darken 29 = .ok (.iastore, 1) := by decide +kernel
theorem dX7_darken_30 : decode cX7_darken 30 = .ok (.iconst 0, 1) := by decide +kernel
theorem dX7_darken_31 : decode cX7_darken 31 = .ok (.istore_n 2, 1) := by decide +kernel
theorem dX7_darken_32 : decode cX7_darken 32 = .ok (.iload_n 2, 1) := by decide +kernel
theorem dX7_darken_33 : decode cX7_darken 33 = .ok (.aload_n 0, 1) := by decide +kernel
theorem dX7_darken_34 : decode cX7_darken 34 = .ok (.getfield 29, 3) := by decide +kernel
theorem dX7_darken_37 : decode cX7_darken 37 = .ok (.iconst 1, 1) := by decide +kernel
theorem dX7_darken_38 : decode cX7_darken 38 = .ok (.iaload, 1) := by decide +kernel
theorem dX7_darken_39 : decode cX7_darken 39 = .ok (.if_icmp .ge 112, 3) := by decide +kernel
theorem dX7_darken_42 : decode cX7_darken 42 = .ok (.iconst 0, 1) := by decide +kernel
theorem dX7_darken_43 : decode cX7_darken 43 = .ok (.istore_n 3, 1) := by decide +kernel
theorem dX7_darken_44 : decode cX7_darken 44 = .ok (.iload_n 3, 1) := by decide +kernel
theorem dX7_darken_45 : decode cX7_darken 45 = .ok (.aload_n 0, 1) := by decide +kernel
theorem dX7_darken_46 : decode cX7_darken 46 = .ok (.getfield 29, 3) := by decide +kernel
theorem dX7_darken_49 : decode cX7_darken 49 = .ok (.iconst 0, 1) := by decide +kernel
theorem dX7_darken_50 : decode cX7_darken 50 = .ok (.iaload, 1) := by decide +kernel
theorem dX7_darken_51 : decode cX7_darken 51 = .ok (.if_icmp .ge 94, 3) := by decide +kernel
theorem dX7_darken_54 : decode cX7_darken 54 = .ok (.bipush 16, 2) := by decide +kernel
theorem dX7_darken_56 : decode cX7_darken 56 = .ok (.iload_n 2, 1) := by decide +kernel
theorem dX7_darken_57 : decode cX7_darken 57 = .ok (.imul, 1) := by decide +kernel
theorem dX7_darken_58 : decode cX7_darken 58 = .ok (.iload_n 3, 1) := by decide +kernel
theorem dX7_darken_59 : decode cX7_darken 59 = .ok (.iadd, 1) := by decide +kernel
theorem dX7_darken_60 : decode cX7_darken 60 = .ok (.istore 4, 2) := by decide +kernel
theorem dX7_darken_62 : decode cX7_darken 62 = .ok (.aload_n 0, 1) := by decide +kernel
theorem dX7_darken_63 : decode cX7_darken 63 = .ok (.getfield 7, 3) := by decide +kernel
theorem dX7_darken_66 : decode cX7_darken 66 = .ok (.iload_n 1, 1) := by decide +kernel
theorem dX7_darken_67 : decode cX7_darken 67 = .ok (.sipush 160, 3) := by decide +kernel
theorem dX7_darken_70 : decode cX7_darken 70 = .ok (.iadd, 1) := by decide +kernel
theorem dX7_darken_71 : decode cX7_darken 71 = .ok (.iload 4, 2) := by decide +kernel
theorem dX7_darken_73 : decode cX7_darken 73 = .ok (.iadd, 1) := by decide +kernel
theorem dX7_darken_74 : decode cX7_darken 74 = .ok (.iaload, 1) := by decide +kernel
theorem dX7_darken_75 : decode cX7_darken 75 = .ok (.ifCond .lt 64, 3) := by decide +kernel
theorem dX7_darken_78 : decode cX7_darken 78 = .ok (.aload_n 0, 1) := by decide +kernel
theorem dX7_darken_79 : decode cX7_darken 79 = .ok (.getfield 7, 3) := by decide +kernel
theorem dX7_darken_82 : decode cX7_darken 82 = .ok (.iload_n 1, 1) := by decide +kernel
theorem dX7_darken_83 : decode cX7_darken 83 = .ok (.sipush 1334, 3) := by decide +kernel
theorem dX7_darken_86 : decode cX7_darken 86 = .ok (.iadd, 1) := by decide +kernel
theorem dX7_darken_87 : decode cX7_darken 87 = .ok (.iaload, 1) := by decide +kernel
theorem dX7_darken_88 : decode cX7_darken 88 = .ok (.aload_n 0, 1) := by decide +kernel
theorem dX7_darken_89 : decode cX7_darken 89 = .ok (.getfield 7, 3) := by decide +kernel
theorem dX7_darken_92 : decode cX7_darken 92 = .ok (.iload_n 1, 1) := by decide +kernel
theorem dX7_darken_93 : decode cX7_darken 93 = .ok (.sipush 288, 3) := by decide +kernel
theorem dX7_darken_96 : decode cX7_darken 96 = .ok (.iadd, 1) := by decide +kernel
theorem dX7_darken_97 : decode cX7_darken 97 = .ok (.iload 4, 2) := by decide +kernel
theorem dX7_darken_99 : decode cX7_darken 99 = .ok (.iadd, 1) := by decide +kernel
theorem dX7_darken_100 : decode cX7_darken 100 = .ok (.iaload, 1) := by decide +kernel
theorem dX7_darken_101 : decode cX7_darken 101 = .ok (.isub, 1) := by decide +kernel
theorem dX7_darken_102 : decode cX7_darken 102 = .ok (.aload_n 0, 1) := by decide +kernel
theorem dX7_darken_103 : decode cX7_darken 103 = .ok (.getfield 26, 3) := by decide +kernel
theorem dX7_darken_106 : decode cX7_darken 106 = .ok (.iload_n 2, 1) := by decide +kernel
theorem dX7_darken_107 : decode cX7_darken 107 = .ok (.iaload, 1) := by decide +kernel
theorem dX7_darken_108 : decode cX7_darken 108 = .ok (.if_icmp .lt 31, 3) := by decide +kernel
theorem dX7_darken_111 : decode cX7_darken 111 = .ok (.aload_n 0, 1) := by decide +kernel
theorem dX7_darken_112 : decode cX7_darken 112 = .ok (.getfield 7, 3) := by decide +kernel
theorem dX7_darken_115 : decode cX7_darken 115 = .ok (.iload_n 1, 1) := by decide +kernel
theorem dX7_darken_116 : decode cX7_darken 116 = .ok (.sipush 160, 3) := by decide +kernel
theorem dX7_darken_119 : decode cX7_darken 119 = .ok (.iadd, 1) := by decide +kernel
theorem dX7_darken_120 : decode cX7_darken 120 = .ok (.iload 4, 2) := by decide +kernel
theorem dX7_darken_122 : decode cX7_darken 122 = .ok (.iadd, 1) := by decide +kernel
theorem dX7_darken_123 : decode cX7_darken 123 = .ok (.iconst (-1), 1) := by decide +kernel
theorem dX7_darken_124 : decode cX7_darken 124 = .ok (.iastore, 1) := by decide +kernel
theorem dX7_darken_125 : decode cX7_darken 125 = .ok (.aload_n 0, 1) := by decide +kernel
theorem dX7_darken_126 : decode cX7_darken 126 = .ok (.getfield 7, 3) := by decide +kernel
theorem dX7_darken_129 : decode cX7_darken 129 = .ok (.iload_n 1, 1) := by decide +kernel
theorem dX7_darken_130 : decode cX7_darken 130 = .ok (.sipush 288, 3) := by decide +kernel
theorem dX7_darken_133 : decode cX7_darken 133 = .ok (.iadd, 1) := by decide +kernel
theorem dX7_darken_134 : decode cX7_darken 134 = .ok (.iload 4, 2) := by decide +kernel
theorem dX7_darken_136 : decode cX7_darken 136 = .ok (.iadd, 1) := by decide +kernel
theorem dX7_darken_137 : decode cX7_darken 137 = .ok (.iconst (-1), 1) := by decide +kernel
theorem dX7_darken_138 : decode cX7_darken 138 = .ok (.iastore, 1) := by decide +kernel
theorem dX7_darken_139 : decode cX7_darken 139 = .ok (.iinc 3 1, 3) := by decide +kernel
theorem dX7_darken_142 : decode cX7_darken 142 = .ok (.goto (-98), 3) := by decide +kernel
theorem dX7_darken_145 : decode cX7_darken 145 = .ok (.iinc 2 1, 3) := by decide +kernel
theorem dX7_darken_148 : decode cX7_darken 148 = .ok (.goto (-116), 3) := by decide +kernel
theorem dX7_darken_151 : decode cX7_darken 151 = .ok (.return_, 1) := by decide +kernel
theorem dX7_dusk_0 : decode cX7_dusk 0 = .ok (.iload_n 1, 1) := by decide +kernel
theorem dX7_dusk_1 : decode cX7_dusk 1 = .ok (.i2l, 1) := by decide +kernel
theorem dX7_dusk_2 : decode cX7_dusk 2 = .ok (.lconst 1, 1) := by decide +kernel
theorem dX7_dusk_3 : decode cX7_dusk 3 = .ok (.ldc2_w 206, 3) := by decide +kernel
theorem dX7_dusk_6 : decode cX7_dusk 6 = .ok (.invokestatic 59, 3) := by decide +kernel
theorem dX7_dusk_9 : decode cX7_dusk 9 = .ok (.ifCond .ne 6, 3) := by decide +kernel
theorem dX7_dusk_12 : decode cX7_dusk 12 = .ok (.ldc 63, 2) := by decide +kernel
theorem dX7_dusk_14 : decode cX7_dusk 14 = .ok (.ireturn, 1) := by decide +kernel
theorem dX7_dusk_15 : decode cX7_dusk 15 = .ok (.iconst 0, 1) := by decide +kernel
theorem dX7_dusk_16 : decode cX7_dusk 16 = .ok (.istore_n 2, 1) := by decide +kernel
theorem dX7_dusk_17 : decode cX7_dusk 17 = .ok (.iload_n 2, 1) := by decide +kernel
theorem dX7_dusk_18 : decode cX7_dusk 18 = .ok (.iload_n 1, 1) := by decide +kernel
theorem dX7_dusk_19 : decode cX7_dusk 19 = .ok (.if_icmp .ge 14, 3) := by decide +kernel
theorem dX7_dusk_22 : decode cX7_dusk 22 = .ok (.aload_n 0, 1) := by decide +kernel
theorem dX7_dusk_23 : decode cX7_dusk 23 = .ok (.iconst 0, 1) := by decide +kernel
theorem dX7_dusk_24 : decode cX7_dusk 24 = .ok (.invokevirtual 208, 3) := by decide +kernel
theorem dX7_dusk_27 : decode cX7_dusk 27 = .ok (.iinc 2 1, 3) := by decide +kernel
theorem dX7_dusk_30 : decode cX7_dusk 30 = .ok (.goto (-13), 3) := by decide +kernel
theorem dX7_dusk_33 : decode cX7_dusk 33 = .ok (.aload_n 0, 1) := by decide +kernel
theorem dX7_dusk_34 : decode cX7_dusk 34 = .ok (.getfield 7, 3) := by decide +kernel
theorem dX7_dusk_37 : decode cX7_dusk 37 = .ok (.sipush 1334, 3) := by decide +kernel
theorem dX7_dusk_40 : decode cX7_dusk 40 = .ok (.iaload, 1) := by decide +kernel
theorem dX7_dusk_41 : decode cX7_dusk 41 = .ok (.ireturn, 1) := by decide +kernel
theorem dX7_runDays_0 : decode cX7_runDays 0 = .ok (.iconst 0, 1) := by decide +kernel
theorem dX7_runDays_1 : decode cX7_runDays 1 = .ok (.istore_n 3, 1) := by decide +kernel
theorem dX7_runDays_2 : decode cX7_runDays 2 = .ok (.iload_n 3, 1) := by decide +kernel
theorem dX7_runDays_3 : decode cX7_runDays 3 = .ok (.iload_n 2, 1) := by decide +kernel
theorem dX7_runDays_4 : decode cX7_runDays 4 = .ok (.if_icmp .ge 93, 3) := by decide +kernel
theorem dX7_runDays_7 : decode cX7_runDays 7 = .ok (.aload_n 0, 1) := by decide +kernel
theorem dX7_runDays_8 : decode cX7_runDays 8 = .ok (.getfield 7, 3) := by decide +kernel
theorem dX7_runDays_11 : decode cX7_runDays 11 = .ok (.iload_n 1, 1) := by decide +kernel
theorem dX7_runDays_12 : decode cX7_runDays 12 = .ok (.sipush 1334, 3) := by decide +kernel
theorem dX7_runDays_15 : decode cX7_runDays 15 = .ok (.iadd, 1) := by decide +kernel
theorem dX7_runDays_16 : decode cX7_runDays 16 = .ok (.iaload, 1) := by decide +kernel
theorem dX7_runDays_17 : decode cX7_runDays 17 = .ok (.sipush 9999, 3) := by decide +kernel
theorem dX7_runDays_20 : decode cX7_runDays 20 = .ok (.if_icmp .ge 77, 3) := by decide +kernel
theorem dX7_runDays_23 : decode cX7_runDays 23 = .ok (.iconst 0, 1) := by decide +kernel
theorem dX7_runDays_24 : decode cX7_runDays 24 = .ok (.istore 4, 2) := by decide +kernel
theorem dX7_runDays_26 : decode cX7_runDays 26 = .ok (.iload 4, 2) := by decide +kernel
theorem dX7_runDays_28 : decode cX7_runDays 28 = .ok (.aload_n 0, 1) := by decide +kernel
theorem dX7_runDays_29 : decode cX7_runDays 29 = .ok (.getfield 29, 3) := by decide +kernel
theorem dX7_runDays_32 : decode cX7_runDays 32 = .ok (.iconst 1, 1) := by decide +kernel
theorem dX7_runDays_33 : decode cX7_runDays 33 = .ok (.iaload, 1) := by decide +kernel
theorem dX7_runDays_34 : decode cX7_runDays 34 = .ok (.if_icmp .ge 52, 3) := by decide +kernel
theorem dX7_runDays_37 : decode cX7_runDays 37 = .ok (.aload_n 0, 1) := by decide +kernel
theorem dX7_runDays_38 : decode cX7_runDays 38 = .ok (.iload_n 1, 1) := by decide +kernel
theorem dX7_runDays_39 : decode cX7_runDays 39 = .ok (.aload_n 0, 1) := by decide +kernel
theorem dX7_runDays_40 : decode cX7_runDays 40 = .ok (.getfield 7, 3) := by decide +kernel
theorem dX7_runDays_43 : decode cX7_runDays 43 = .ok (.iload_n 1, 1) := by decide +kernel
theorem dX7_runDays_44 : decode cX7_runDays 44 = .ok (.sipush 1332, 3) := by decide +kernel
theorem dX7_runDays_47 : decode cX7_runDays 47 = .ok (.iadd, 1) := by decide +kernel
theorem dX7_runDays_48 : decode cX7_runDays 48 = .ok (.iaload, 1) := by decide +kernel
theorem dX7_runDays_49 : decode cX7_runDays 49 = .ok (.invokevirtual 199, 3) := by decide +kernel
theorem dX7_runDays_52 : decode cX7_runDays 52 = .ok (.istore 5, 2) := by decide +kernel
theorem dX7_runDays_54 : decode cX7_runDays 54 = .ok (.aload_n 0, 1) := by decide +kernel
theorem dX7_runDays_55 : decode cX7_runDays 55 = .ok (.getfield 7, 3) := by decide +kernel
theorem dX7_runDays_58 : decode cX7_runDays 58 = .ok (.iload_n 1, 1) := by decide +kernel
theorem dX7_runDays_59 : decode cX7_runDays 59 = .ok (.bipush 80, 2) := by decide +kernel
theorem dX7_runDays_61 : decode cX7_runDays 61 = .ok (.iadd, 1) := by decide +kernel
theorem dX7_runDays_62 : decode cX7_runDays 62 = .ok (.iload 5, 2) := by decide +kernel
theorem dX7_runDays_64 : decode cX7_runDays 64 = .ok (.iadd, 1) := by decide +kernel
theorem dX7_runDays_65 : decode cX7_runDays 65 = .ok (.iaload, 1) := by decide +kernel
theorem dX7_runDays_66 : decode cX7_runDays 66 = .ok (.bipush 9, 2) := by decide +kernel
theorem dX7_runDays_68 : decode cX7_runDays 68 = .ok (.if_icmp .ge 12, 3) := by decide +kernel
theorem dX7_runDays_71 : decode cX7_runDays 71 = .ok (.aload_n 0, 1) := by decide +kernel
theorem dX7_runDays_72 : decode cX7_runDays 72 = .ok (.iload_n 1, 1) := by decide +kernel
theorem dX7_runDays_73 : decode cX7_runDays 73 = .ok (.iload 4, 2) := by decide +kernel
theorem dX7_runDays_75 : decode cX7_runDays 75 = .ok (.iload 5, 2) := by decide +kernel
theorem dX7_runDays_77 : decode cX7_runDays 77 = .ok (.invokevirtual 188, 3) := by decide +kernel
theorem dX7_runDays_80 : decode cX7_runDays 80 = .ok (.iinc 4 1, 3) := by decide +kernel
theorem dX7_runDays_83 : decode cX7_runDays 83 = .ok (.goto (-57), 3) := by decide +kernel
theorem dX7_runDays_86 : decode cX7_runDays 86 = .ok (.aload_n 0, 1) := by decide +kernel
theorem dX7_runDays_87 : decode cX7_runDays 87 = .ok (.iload_n 1, 1) := by decide +kernel
theorem dX7_runDays_88 : decode cX7_runDays 88 = .ok (.invokevirtual 208, 3) := by decide +kernel
theorem dX7_runDays_91 : decode cX7_runDays 91 = .ok (.iinc 3 1, 3) := by decide +kernel
theorem dX7_runDays_94 : decode cX7_runDays 94 = .ok (.goto (-92), 3) := by decide +kernel
theorem dX7_runDays_97 : decode cX7_runDays 97 = .ok (.return_, 1) := by decide +kernel
theorem dX7_run_0 : decode cX7_run 0 = .ok (.iload_n 1, 1) := by decide +kernel
theorem dX7_run_1 : decode cX7_run 1 = .ok (.i2l, 1) := by decide +kernel
theorem dX7_run_2 : decode cX7_run 2 = .ok (.lconst 1, 1) := by decide +kernel
theorem dX7_run_3 : decode cX7_run 3 = .ok (.ldc2_w 212, 3) := by decide +kernel
theorem dX7_run_6 : decode cX7_run 6 = .ok (.invokestatic 59, 3) := by decide +kernel
theorem dX7_run_9 : decode cX7_run 9 = .ok (.ifCond .ne 6, 3) := by decide +kernel
theorem dX7_run_12 : decode cX7_run 12 = .ok (.ldc 63, 2) := by decide +kernel
theorem dX7_run_14 : decode cX7_run 14 = .ok (.ireturn, 1) := by decide +kernel
theorem dX7_run_15 : decode cX7_run 15 = .ok (.aload_n 0, 1) := by decide +kernel
theorem dX7_run_16 : decode cX7_run 16 = .ok (.getfield 7, 3) := by decide +kernel
theorem dX7_run_19 : decode cX7_run 19 = .ok (.sipush 1332, 3) := by decide +kernel
theorem dX7_run_22 : decode cX7_run 22 = .ok (.iaload, 1) := by decide +kernel
theorem dX7_run_23 : decode cX7_run 23 = .ok (.ifCond .ne 6, 3) := by decide +kernel
theorem dX7_run_26 : decode cX7_run 26 = .ok (.ldc 187, 2) := by decide +kernel
theorem dX7_run_28 : decode cX7_run 28 = .ok (.ireturn, 1) := by decide +kernel
theorem dX7_run_29 : decode cX7_run 29 = .ok (.aload_n 0, 1) := by decide +kernel
theorem dX7_run_30 : decode cX7_run 30 = .ok (.iconst 0, 1) := by decide +kernel
theorem dX7_run_31 : decode cX7_run 31 = .ok (.iload_n 1, 1) := by decide +kernel
theorem dX7_run_32 : decode cX7_run 32 = .ok (.invokevirtual 214, 3) := by decide +kernel
theorem dX7_run_35 : decode cX7_run 35 = .ok (.iconst 0, 1) := by decide +kernel
theorem dX7_run_36 : decode cX7_run 36 = .ok (.istore_n 2, 1) := by decide +kernel
theorem dX7_run_37 : decode cX7_run 37 = .ok (.iconst 0, 1) := by decide +kernel
theorem dX7_run_38 : decode cX7_run 38 = .ok (.istore_n 3, 1) := by decide +kernel
theorem dX7_run_39 : decode cX7_run 39 = .ok (.iload_n 3, 1) := by decide +kernel
theorem dX7_run_40 : decode cX7_run 40 = .ok (.aload_n 0, 1) := by decide +kernel
theorem dX7_run_41 : decode cX7_run 41 = .ok (.getfield 7, 3) := by decide +kernel
theorem dX7_run_44 : decode cX7_run 44 = .ok (.sipush 1332, 3) := by decide +kernel
theorem dX7_run_47 : decode cX7_run 47 = .ok (.iaload, 1) := by decide +kernel
theorem dX7_run_48 : decode cX7_run 48 = .ok (.if_icmp .ge 34, 3) := by decide +kernel
theorem dX7_run_51 : decode cX7_run 51 = .ok (.iload_n 2, 1) := by decide +kernel
theorem dX7_run_52 : decode cX7_run 52 = .ok (.aload_n 0, 1) := by decide +kernel
theorem dX7_run_53 : decode cX7_run 53 = .ok (.getfield 7, 3) := by decide +kernel
theorem dX7_run_56 : decode cX7_run 56 = .ok (.bipush 80, 2) := by decide +kernel
theorem dX7_run_58 : decode cX7_run 58 = .ok (.iload_n 3, 1) := by decide +kernel
theorem dX7_run_59 : decode cX7_run 59 = .ok (.iadd, 1) := by decide +kernel
theorem dX7_run_60 : decode cX7_run 60 = .ok (.iaload, 1) := by decide +kernel
theorem dX7_run_61 : decode cX7_run 61 = .ok (.bipush 9, 2) := by decide +kernel
theorem dX7_run_63 : decode cX7_run 63 = .ok (.if_icmp .ne 7, 3) := by decide +kernel
theorem dX7_run_66 : decode cX7_run 66 = .ok (.iconst 1, 1) := by decide +kernel
theorem dX7_run_67 : decode cX7_run 67 = .ok (.goto 4, 3) := by decide +kernel
theorem dX7_run_70 : decode cX7_run 70 = .ok (.iconst 0, 1) := by decide +kernel
theorem dX7_run_71 : decode cX7_run 71 = .ok (.invokestatic 141, 3) := by decide +kernel
theorem dX7_run_74 : decode cX7_run 74 = .ok (.iadd, 1) := by decide +kernel
theorem dX7_run_75 : decode cX7_run 75 = .ok (.istore_n 2, 1) := by decide +kernel
theorem dX7_run_76 : decode cX7_run 76 = .ok (.iinc 3 1, 3) := by decide +kernel
theorem dX7_run_79 : decode cX7_run 79 = .ok (.goto (-40), 3) := by decide +kernel
theorem dX7_run_82 : decode cX7_run 82 = .ok (.iload_n 2, 1) := by decide +kernel
theorem dX7_run_83 : decode cX7_run 83 = .ok (.ireturn, 1) := by decide +kernel
theorem dX7_where_0 : decode cX7_where 0 = .ok (.aload_n 0, 1) := by decide +kernel
theorem dX7_where_1 : decode cX7_where 1 = .ok (.iload_n 1, 1) := by decide +kernel
theorem dX7_where_2 : decode cX7_where 2 = .ok (.invokevirtual 161, 3) := by decide +kernel
theorem dX7_where_5 : decode cX7_where 5 = .ok (.ifCond .ne 6, 3) := by decide +kernel
theorem dX7_where_8 : decode cX7_where 8 = .ok (.ldc 165, 2) := by decide +kernel
theorem dX7_where_10 : decode cX7_where 10 = .ok (.ireturn, 1) := by decide +kernel
theorem dX7_where_11 : decode cX7_where 11 = .ok (.aload_n 0, 1) := by decide +kernel
theorem dX7_where_12 : decode cX7_where 12 = .ok (.getfield 7, 3) := by decide +kernel
theorem dX7_where_15 : decode cX7_where 15 = .ok (.sipush 416, 3) := by decide +kernel
theorem dX7_where_18 : decode cX7_where 18 = .ok (.iload_n 1, 1) := by decide +kernel
theorem dX7_where_19 : decode cX7_where 19 = .ok (.iadd, 1) := by decide +kernel
theorem dX7_where_20 : decode cX7_where 20 = .ok (.iaload, 1) := by decide +kernel
theorem dX7_where_21 : decode cX7_where 21 = .ok (.bipush 9, 2) := by decide +kernel
theorem dX7_where_23 : decode cX7_where 23 = .ok (.if_icmp .ne 6, 3) := by decide +kernel
theorem dX7_where_26 : decode cX7_where 26 = .ok (.ldc 187, 2) := by decide +kernel
theorem dX7_where_28 : decode cX7_where 28 = .ok (.ireturn, 1) := by decide +kernel
theorem dX7_where_29 : decode cX7_where 29 = .ok (.aload_n 0, 1) := by decide +kernel
theorem dX7_where_30 : decode cX7_where 30 = .ok (.getfield 7, 3) := by decide +kernel
theorem dX7_where_33 : decode cX7_where 33 = .ok (.sipush 416, 3) := by decide +kernel
theorem dX7_where_36 : decode cX7_where 36 = .ok (.iload_n 1, 1) := by decide +kernel
theorem dX7_where_37 : decode cX7_where 37 = .ok (.iadd, 1) := by decide +kernel
theorem dX7_where_38 : decode cX7_where 38 = .ok (.dup2, 1) := by decide +kernel
theorem dX7_where_39 : decode cX7_where 39 = .ok (.iaload, 1) := by decide +kernel
theorem dX7_where_40 : decode cX7_where 40 = .ok (.iconst 1, 1) := by decide +kernel
theorem dX7_where_41 : decode cX7_where 41 = .ok (.iadd, 1) := by decide +kernel
theorem dX7_where_42 : decode cX7_where 42 = .ok (.iastore, 1) := by decide +kernel
theorem dX7_where_43 : decode cX7_where 43 = .ok (.iconst 0, 1) := by decide +kernel
theorem dX7_where_44 : decode cX7_where 44 = .ok (.istore_n 2, 1) := by decide +kernel
theorem dX7_where_45 : decode cX7_where 45 = .ok (.iload_n 2, 1) := by decide +kernel
theorem dX7_where_46 : decode cX7_where 46 = .ok (.aload_n 0, 1) := by decide +kernel
theorem dX7_where_47 : decode cX7_where 47 = .ok (.getfield 7, 3) := by decide +kernel
theorem dX7_where_50 : decode cX7_where 50 = .ok (.sipush 1332, 3) := by decide +kernel
theorem dX7_where_53 : decode cX7_where 53 = .ok (.iaload, 1) := by decide +kernel
theorem dX7_where_54 : decode cX7_where 54 = .ok (.if_icmp .ge 33, 3) := by decide +kernel
theorem dX7_where_57 : decode cX7_where 57 = .ok (.aload_n 0, 1) := by decide +kernel
theorem dX7_where_58 : decode cX7_where 58 = .ok (.getfield 7, 3) := by decide +kernel
theorem dX7_where_61 : decode cX7_where 61 = .ok (.iload_n 2, 1) := by decide +kernel
theorem dX7_where_62 : decode cX7_where 62 = .ok (.iaload, 1) := by decide +kernel
theorem dX7_where_63 : decode cX7_where 63 = .ok (.iload_n 1, 1) := by decide +kernel
theorem dX7_where_64 : decode cX7_where 64 = .ok (.if_icmp .ne 17, 3) := by decide +kernel
theorem dX7_where_67 : decode cX7_where 67 = .ok (.aload_n 0, 1) := by decide +kernel
theorem dX7_where_68 : decode cX7_where 68 = .ok (.getfield 7, 3) := by decide +kernel
theorem dX7_where_71 : decode cX7_where 71 = .ok (.bipush 80, 2) := by decide +kernel
theorem dX7_where_73 : decode cX7_where 73 = .ok (.iload_n 2, 1) := by decide +kernel
theorem dX7_where_74 : decode cX7_where 74 = .ok (.iadd, 1) := by decide +kernel
theorem dX7_where_75 : decode cX7_where 75 = .ok (.iaload, 1) := by decide +kernel
theorem dX7_where_76 : decode cX7_where 76 = .ok (.bipush 9, 2) := by decide +kernel
theorem dX7_where_78 : decode cX7_where 78 = .ok (.if_icmp .ne 9, 3) := by decide +kernel
theorem dX7_where_81 : decode cX7_where 81 = .ok (.iinc 2 1, 3) := by decide +kernel
theorem dX7_where_84 : decode cX7_where 84 = .ok (.goto (-39), 3) := by decide +kernel
theorem dX7_where_87 : decode cX7_where 87 = .ok (.iload_n 2, 1) := by decide +kernel
theorem dX7_where_88 : decode cX7_where 88 = .ok (.aload_n 0, 1) := by decide +kernel
theorem dX7_where_89 : decode cX7_where 89 = .ok (.getfield 7, 3) := by decide +kernel
theorem dX7_where_92 : decode cX7_where 92 = .ok (.sipush 1332, 3) := by decide +kernel
theorem dX7_where_95 : decode cX7_where 95 = .ok (.iaload, 1) := by decide +kernel
theorem dX7_where_96 : decode cX7_where 96 = .ok (.if_icmp .ne 7, 3) := by decide +kernel
theorem dX7_where_99 : decode cX7_where 99 = .ok (.iconst (-1), 1) := by decide +kernel
theorem dX7_where_100 : decode cX7_where 100 = .ok (.goto 4, 3) := by decide +kernel
theorem dX7_where_103 : decode cX7_where 103 = .ok (.iload_n 2, 1) := by decide +kernel
theorem dX7_where_104 : decode cX7_where 104 = .ok (.ireturn, 1) := by decide +kernel
theorem dX7_request_0 : decode cX7_request 0 = .ok (.aload_n 0, 1) := by decide +kernel
theorem dX7_request_1 : decode cX7_request 1 = .ok (.iload_n 1, 1) := by decide +kernel
theorem dX7_request_2 : decode cX7_request 2 = .ok (.invokevirtual 169, 3) := by decide +kernel
theorem dX7_request_5 : decode cX7_request 5 = .ok (.ifCond .eq 11, 3) := by decide +kernel
theorem dX7_request_8 : decode cX7_request 8 = .ok (.aload_n 0, 1) := by decide +kernel
theorem dX7_request_9 : decode cX7_request 9 = .ok (.iload_n 2, 1) := by decide +kernel
theorem dX7_request_10 : decode cX7_request 10 = .ok (.invokevirtual 161, 3) := by decide +kernel
theorem dX7_request_13 : decode cX7_request 13 = .ok (.ifCond .ne 6, 3) := by decide +kernel
theorem dX7_request_16 : decode cX7_request 16 = .ok (.ldc 165, 2) := by decide +kernel
theorem dX7_request_18 : decode cX7_request 18 = .ok (.ireturn, 1) := by decide +kernel
theorem dX7_request_19 : decode cX7_request 19 = .ok (.iload_n 3, 1) := by decide +kernel
theorem dX7_request_20 : decode cX7_request 20 = .ok (.i2l, 1) := by decide +kernel
theorem dX7_request_21 : decode cX7_request 21 = .ok (.lconst 0, 1) := by decide +kernel
theorem dX7_request_22 : decode cX7_request 22 = .ok (.ldc2_w 218, 3) := by decide +kernel
theorem dX7_request_25 : decode cX7_request 25 = .ok (.invokestatic 59, 3) := by decide +kernel
theorem dX7_request_28 : decode cX7_request 28 = .ok (.ifCond .ne 6, 3) := by decide +kernel
theorem dX7_request_31 : decode cX7_request 31 = .ok (.ldc 63, 2) := by decide +kernel
theorem dX7_request_33 : decode cX7_request 33 = .ok (.ireturn, 1) := by decide +kernel
theorem dX7_request_34 : decode cX7_request 34 = .ok (.aload_n 0, 1) := by decide +kernel
theorem dX7_request_35 : decode cX7_request 35 = .ok (.getfield 131, 3) := by decide +kernel
theorem dX7_request_38 : decode cX7_request 38 = .ok (.bipush 10, 2) := by decide +kernel
theorem dX7_request_40 : decode cX7_request 40 = .ok (.if_icmp .ne 6, 3) := by decide +kernel
theorem dX7_request_43 : decode cX7_request 43 = .ok (.ldc 67, 2) := by decide +kernel
theorem dX7_request_45 : decode cX7_request 45 = .ok (.ireturn, 1) := by decide +kernel
theorem dX7_request_46 : decode cX7_request 46 = .ok (.aload_n 0, 1) := by decide +kernel
theorem dX7_request_47 : decode cX7_request 47 = .ok (.getfield 42, 3) := by decide +kernel
theorem dX7_request_50 : decode cX7_request 50 = .ok (.aload_n 0, 1) := by decide +kernel
theorem dX7_request_51 : decode cX7_request 51 = .ok (.getfield 131, 3) := by decide +kernel
theorem dX7_request_54 : decode cX7_request 54 = .ok (.iload_n 1, 1) := by decide +kernel
theorem dX7_request_55 : decode cX7_request 55 = .ok (.iastore, 1) := by decide +kernel
theorem dX7_request_56 : decode cX7_request 56 = .ok (.aload_n 0, 1) := by decide +kernel
theorem dX7_request_57 : decode cX7_request 57 = .ok (.getfield 45, 3) := by decide +kernel
theorem dX7_request_60 : decode cX7_request 60 = .ok (.aload_n 0, 1) := by decide +kernel
theorem dX7_request_61 : decode cX7_request 61 = .ok (.getfield 131, 3) := by decide +kernel
theorem dX7_request_64 : decode cX7_request 64 = .ok (.iload_n 2, 1) := by decide +kernel
theorem dX7_request_65 : decode cX7_request 65 = .ok (.iastore, 1) := by decide +kernel
theorem dX7_request_66 : decode cX7_request 66 = .ok (.aload_n 0, 1) := by decide +kernel
theorem dX7_request_67 : decode cX7_request 67 = .ok (.getfield 48, 3) := by decide +kernel
theorem dX7_request_70 : decode cX7_request 70 = .ok (.aload_n 0, 1) := by decide +kernel
theorem dX7_request_71 : decode cX7_request 71 = .ok (.getfield 131, 3) := by decide +kernel
theorem dX7_request_74 : decode cX7_request 74 = .ok (.iload_n 3, 1) := by decide +kernel
theorem dX7_request_75 : decode cX7_request 75 = .ok (.iastore, 1) := by decide +kernel
theorem dX7_request_76 : decode cX7_request 76 = .ok (.aload_n 0, 1) := by decide +kernel
theorem dX7_request_77 : decode cX7_request 77 = .ok (.dup, 1) := by decide +kernel
theorem dX7_request_78 : decode cX7_request 78 = .ok (.getfield 131, 3) := by decide +kernel
theorem dX7_request_81 : decode cX7_request 81 = .ok (.iconst 1, 1) := by decide +kernel
theorem dX7_request_82 : decode cX7_request 82 = .ok (.iadd, 1) := by decide +kernel
theorem dX7_request_83 : decode cX7_request 83 = .ok (.putfield 131, 3) := by decide +kernel
theorem dX7_request_86 : decode cX7_request 86 = .ok (.aload_n 0, 1) := by decide +kernel
theorem dX7_request_87 : decode cX7_request 87 = .ok (.getfield 131, 3) := by decide +kernel
theorem dX7_request_90 : decode cX7_request 90 = .ok (.iconst 1, 1) := by decide +kernel
theorem dX7_request_91 : decode cX7_request 91 = .ok (.isub, 1) := by decide +kernel
theorem dX7_request_92 : decode cX7_request 92 = .ok (.ireturn, 1) := by decide +kernel
theorem dX7_forget_0 : decode cX7_forget 0 = .ok (.aload_n 0, 1) := by decide +kernel
theorem dX7_forget_1 : decode cX7_forget 1 = .ok (.getfield 131, 3) := by decide +kernel
theorem dX7_forget_4 : decode cX7_forget 4 = .ok (.istore_n 1, 1) := by decide +kernel
theorem dX7_forget_5 : decode cX7_forget 5 = .ok (.aload_n 0, 1) := by decide +kernel
theorem dX7_forget_6 : decode cX7_forget 6 = .ok (.iconst 0, 1) := by decide +kernel
theorem dX7_forget_7 : decode cX7_forget 7 = .ok (.putfield 131, 3) := by decide +kernel
theorem dX7_forget_10 : decode cX7_forget 10 = .ok (.iload_n 1, 1) := by decide +kernel
theorem dX7_forget_11 : decode cX7_forget 11 = .ok (.ireturn, 1) := by decide +kernel
theorem dX7_palest_0 : decode cX7_palest 0 = .ok (.iconst (-1), 1) := by decide +kernel
theorem dX7_palest_1 : decode cX7_palest 1 = .ok (.istore_n 3, 1) := by decide +kernel
theorem dX7_palest_2 : decode cX7_palest 2 = .ok (.iconst 0, 1) := by decide +kernel
theorem dX7_palest_3 : decode cX7_palest 3 = .ok (.istore 4, 2) := by decide +kernel
theorem dX7_palest_5 : decode cX7_palest 5 = .ok (.iload 4, 2) := by decide +kernel
theorem dX7_palest_7 : decode cX7_palest 7 = .ok (.aload_n 0, 1) := by decide +kernel
theorem dX7_palest_8 : decode cX7_palest 8 = .ok (.getfield 7, 3) := by decide +kernel
theorem dX7_palest_11 : decode cX7_palest 11 = .ok (.iload_n 1, 1) := by decide +kernel
theorem dX7_palest_12 : decode cX7_palest 12 = .ok (.sipush 1332, 3) := by decide +kernel
theorem dX7_palest_15 : decode cX7_palest 15 = .ok (.iadd, 1) := by decide +kernel
theorem dX7_palest_16 : decode cX7_palest 16 = .ok (.iaload, 1) := by decide +kernel
theorem dX7_palest_17 : decode cX7_palest 17 = .ok (.if_icmp .ge 76, 3) := by decide +kernel
theorem dX7_palest_20 : decode cX7_palest 20 = .ok (.aload_n 0, 1) := by decide +kernel
theorem dX7_palest_21 : decode cX7_palest 21 = .ok (.getfield 7, 3) := by decide +kernel
theorem dX7_palest_24 : decode cX7_palest 24 = .ok (.iload_n 1, 1) := by decide +kernel
theorem dX7_palest_25 : decode cX7_palest 25 = .ok (.iload 4, 2) := by decide +kernel
theorem dX7_palest_27 : decode cX7_palest 27 = .ok (.iadd, 1) := by decide +kernel
theorem dX7_palest_28 : decode cX7_palest 28 = .ok (.iaload, 1) := by decide +kernel
theorem dX7_palest_29 : decode cX7_palest 29 = .ok (.iload_n 2, 1) := by decide +kernel
theorem dX7_palest_30 : decode cX7_palest 30 = .ok (.if_icmp .ne 55, 3) := by decide +kernel
theorem dX7_palest_33 : decode cX7_palest 33 = .ok (.aload_n 0, 1) := by decide +kernel
theorem dX7_palest_34 : decode cX7_palest 34 = .ok (.getfield 7, 3) := by decide +kernel
theorem dX7_palest_37 : decode cX7_palest 37 = .ok (.iload_n 1, 1) := by decide +kernel
theorem dX7_palest_38 : decode cX7_palest 38 = .ok (.bipush 80, 2) := by decide +kernel
theorem dX7_palest_40 : decode cX7_palest 40 = .ok (.iadd, 1) := by decide +kernel
theorem dX7_palest_41 : decode cX7_palest 41 = .ok (.iload 4, 2) := by decide +kernel
theorem dX7_palest_43 : decode cX7_palest 43 = .ok (.iadd, 1) := by decide +kernel
theorem dX7_palest_44 : decode cX7_palest 44 = .ok (.iaload, 1) := by decide +kernel
theorem dX7_palest_45 : decode cX7_palest 45 = .ok (.bipush 9, 2) := by decide +kernel
theorem dX7_palest_47 : decode cX7_palest 47 = .ok (.if_icmp .ge 38, 3) := by decide +kernel
theorem dX7_palest_50 : decode cX7_palest 50 = .ok (.iload_n 3, 1) := by decide +kernel
theorem dX7_palest_51 : decode cX7_palest 51 = .ok (.ifCond .lt 29, 3) := by decide +kernel
theorem dX7_palest_54 : decode cX7_palest 54 = .ok (.aload_n 0, 1) := by decide +kernel
theorem dX7_palest_55 : decode cX7_palest 55 = .ok (.getfield 7, 3) := by decide +kernel
theorem dX7_palest_58 : decode cX7_palest 58 = .ok (.iload_n 1, 1) := by decide +kernel
theorem dX7_palest_59 : decode cX7_palest 59 = .ok (.bipush 80, 2) := by decide +kernel
theorem dX7_palest_61 : decode cX7_palest 61 = .ok (.iadd, 1) := by decide +kernel
theorem dX7_palest_62 : decode cX7_palest 62 = .ok (.iload 4, 2) := by decide +kernel
theorem dX7_palest_64 : decode cX7_palest 64 = .ok (.iadd, 1) := by decide +kernel
theorem dX7_palest_65 : decode cX7_palest 65 = .ok (.iaload, 1) := by decide +kernel
theorem dX7_palest_66 : decode cX7_palest 66 = .ok (.aload_n 0, 1) := by decide +kernel
theorem dX7_palest_67 : decode cX7_palest 67 = .ok (.getfield 7, 3) := by decide +kernel
theorem dX7_palest_70 : decode cX7_palest 70 = .ok (.iload_n 1, 1) := by decide +kernel
theorem dX7_palest_71 : decode cX7_palest 71 = .ok (.bipush 80, 2) := by decide +kernel
theorem dX7_palest_73 : decode cX7_palest 73 = .ok (.iadd, 1) := by decide +kernel
theorem dX7_palest_74 : decode cX7_palest 74 = .ok (.iload_n 3, 1) := by decide +kernel
theorem dX7_palest_75 : decode cX7_palest 75 = .ok (.iadd, 1) := by decide +kernel
theorem dX7_palest_76 : decode cX7_palest 76 = .ok (.iaload, 1) := by decide +kernel
theorem dX7_palest_77 : decode cX7_palest 77 = .ok (.if_icmp .ge 8, 3) := by decide +kernel
theorem dX7_palest_80 : decode cX7_palest 80 = .ok (.iload 4, 2) := by decide +kernel
theorem dX7_palest_82 : decode cX7_palest 82 = .ok (.goto 4, 3) := by decide +kernel
theorem dX7_palest_85 : decode cX7_palest 85 = .ok (.iload_n 3, 1) := by decide +kernel
theorem dX7_palest_86 : decode cX7_palest 86 = .ok (.istore_n 3, 1) := by decide +kernel
theorem dX7_palest_87 : decode cX7_palest 87 = .ok (.iinc 4 1, 3) := by decide +kernel
theorem dX7_palest_90 : decode cX7_palest 90 = .ok (.goto (-85), 3) := by decide +kernel
theorem dX7_palest_93 : decode cX7_palest 93 = .ok (.iload_n 3, 1) := by decide +kernel
theorem dX7_palest_94 : decode cX7_palest 94 = .ok (.ireturn, 1) := by decide +kernel
theorem dX7_grantAll_0 : decode cX7_grantAll 0 = .ok (.iconst 0, 1) := by decide +kernel
theorem dX7_grantAll_1 : decode cX7_grantAll 1 = .ok (.istore_n 3, 1) := by decide +kernel
theorem dX7_grantAll_2 : decode cX7_grantAll 2 = .ok (.iconst 0, 1) := by decide +kernel
theorem dX7_grantAll_3 : decode cX7_grantAll 3 = .ok (.istore 4, 2) := by decide +kernel
theorem dX7_grantAll_5 : decode cX7_grantAll 5 = .ok (.iload 4, 2) := by decide +kernel
theorem dX7_grantAll_7 : decode cX7_grantAll 7 = .ok (.aload_n 0, 1) := by decide +kernel
theorem dX7_grantAll_8 : decode cX7_grantAll 8 = .ok (.getfield 131, 3) := by decide +kernel
theorem dX7_grantAll_11 : decode cX7_grantAll 11 = .ok (.if_icmp .ge 65, 3) := by decide +kernel
theorem dX7_grantAll_14 : decode cX7_grantAll 14 = .ok (.iload_n 2, 1) := by decide +kernel
theorem dX7_grantAll_15 : decode cX7_grantAll 15 = .ok (.iload 4, 2) := by decide +kernel
theorem dX7_grantAll_17 : decode cX7_grantAll 17 = .ok (.invokestatic 220, 3) := by decide +kernel
theorem dX7_grantAll_20 : decode cX7_grantAll 20 = .ok (.ifCond .eq 18, 3) := by decide +kernel
theorem dX7_grantAll_23 : decode cX7_grantAll 23 = .ok (.aload_n 0, 1) := by decide +kernel
theorem dX7_grantAll_24 : decode cX7_grantAll 24 = .ok (.iload_n 1, 1) := by decide +kernel
theorem dX7_grantAll_25 : decode cX7_grantAll 25 = .ok (.aload_n 0, 1) := by decide +kernel
theorem dX7_grantAll_26 : decode cX7_grantAll 26 = .ok (.getfield 45, 3) := by decide +kernel
theorem dX7_grantAll_29 : decode cX7_grantAll 29 = .ok (.iload 4, 2) := by decide +kernel
theorem dX7_grantAll_31 : decode cX7_grantAll 31 = .ok (.iaload, 1) := by decide +kernel
theorem dX7_grantAll_32 : decode cX7_grantAll 32 = .ok (.invokevirtual 223, 3) := by decide +kernel
theorem dX7_grantAll_35 : decode cX7_grantAll 35 = .ok (.goto 4, 3) := by decide +kernel
theorem dX7_grantAll_38 : decode cX7_grantAll 38 = .ok (.iconst (-1), 1) := by decide +kernel
theorem dX7_grantAll_39 : decode cX7_grantAll 39 = .ok (.istore 5, 2) := by decide +kernel
theorem dX7_grantAll_41 : decode cX7_grantAll 41 = .ok (.iload 5, 2) := by decide +kernel
theorem dX7_grantAll_43 : decode cX7_grantAll 43 = .ok (.ifCond .lt 27, 3) := by decide +kernel
theorem dX7_grantAll_46 : decode cX7_grantAll 46 = .ok (.aload_n 0, 1) := by decide +kernel
theorem dX7_grantAll_47 : decode cX7_grantAll 47 = .ok (.iload_n 1, 1) := by decide +kernel
theorem dX7_grantAll_48 : decode cX7_grantAll 48 = .ok (.aload_n 0, 1) := by decide +kernel
theorem dX7_grantAll_49 : decode cX7_grantAll 49 = .ok (.getfield 42, 3) := by decide +kernel
theorem dX7_grantAll_52 : decode cX7_grantAll 52 = .ok (.iload 4, 2) := by decide +kernel
theorem dX7_grantAll_54 : decode cX7_grantAll 54 = .ok (.iaload, 1) := by decide +kernel
theorem dX7_grantAll_55 : decode cX7_grantAll 55 = .ok (.iload 5, 2) := by decide +kernel
theorem dX7_grantAll_57 : decode cX7_grantAll 57 = .ok (.invokevirtual 188, 3) := by decide +kernel
theorem dX7_grantAll_60 : decode cX7_grantAll 60 = .ok (.iload_n 3, 1) := by decide +kernel
theorem dX7_grantAll_61 : decode cX7_grantAll 61 = .ok (.aload_n 0, 1) := by decide +kernel
theorem dX7_grantAll_62 : decode cX7_grantAll 62 = .ok (.getfield 48, 3) := by decide +kernel
theorem dX7_grantAll_65 : decode cX7_grantAll 65 = .ok (.iload 4, 2) := by decide +kernel
theorem dX7_grantAll_67 : decode cX7_grantAll 67 = .ok (.iaload, 1) := by decide +kernel
theorem dX7_grantAll_68 : decode cX7_grantAll 68 = .ok (.iadd, 1) := by decide +kernel
theorem dX7_grantAll_69 : decode cX7_grantAll 69 = .ok (.istore_n 3, 1) := by decide +kernel
theorem dX7_grantAll_70 : decode cX7_grantAll 70 = .ok (.iinc 4 1, 3) := by decide +kernel
theorem dX7_grantAll_73 : decode cX7_grantAll 73 = .ok (.goto (-68), 3) := by decide +kernel
theorem dX7_grantAll_76 : decode cX7_grantAll 76 = .ok (.iload_n 3, 1) := by decide +kernel
theorem dX7_grantAll_77 : decode cX7_grantAll 77 = .ok (.ireturn, 1) := by decide +kernel
theorem dX7_grant_0 : decode cX7_grant 0 = .ok (.iload_n 1, 1) := by decide +kernel
theorem dX7_grant_1 : decode cX7_grant 1 = .ok (.i2l, 1) := by decide +kernel
theorem dX7_grant_2 : decode cX7_grant 2 = .ok (.lconst 0, 1) := by decide +kernel
theorem dX7_grant_3 : decode cX7_grant 3 = .ok (.iconst 1, 1) := by decide +kernel
theorem dX7_grant_4 : decode cX7_grant 4 = .ok (.aload_n 0, 1) := by decide +kernel
theorem dX7_grant_5 : decode cX7_grant 5 = .ok (.getfield 131, 3) := by decide +kernel
theorem dX7_grant_8 : decode cX7_grant 8 = .ok (.ishl, 1) := by decide +kernel
theorem dX7_grant_9 : decode cX7_grant 9 = .ok (.iconst 1, 1) := by decide +kernel
theorem dX7_grant_10 : decode cX7_grant 10 = .ok (.isub, 1) := by decide +kernel
theorem dX7_grant_11 : decode cX7_grant 11 = .ok (.i2l, 1) := by decide +kernel
theorem dX7_grant_12 : decode cX7_grant 12 = .ok (.invokestatic 59, 3) := by decide +kernel
theorem dX7_grant_15 : decode cX7_grant 15 = .ok (.ifCond .eq 12, 3) := by decide +kernel
theorem dX7_grant_18 : decode cX7_grant 18 = .ok (.aload_n 0, 1) := by decide +kernel
theorem dX7_grant_19 : decode cX7_grant 19 = .ok (.iconst 0, 1) := by decide +kernel
theorem dX7_grant_20 : decode cX7_grant 20 = .ok (.iload_n 1, 1) := by decide +kernel
theorem dX7_grant_21 : decode cX7_grant 21 = .ok (.invokevirtual 226, 3) := by decide +kernel
theorem dX7_grant_24 : decode cX7_grant 24 = .ok (.goto 5, 3) := by decide +kernel
theorem dX7_grant_27 : decode cX7_grant 27 = .ok (.ldc 165, 2) := by decide +kernel
theorem dX7_grant_29 : decode cX7_grant 29 = .ok (.ireturn, 1) := by decide +kernel
theorem dX7_sumBy_0 : decode cX7_sumBy 0 = .ok (.aload_n 0, 1) := by decide +kernel
theorem dX7_sumBy_1 : decode cX7_sumBy 1 = .ok (.iconst 0, 1) := by decide +kernel
theorem dX7_sumBy_2 : decode cX7_sumBy 2 = .ok (.sipush 1500, 3) := by decide +kernel
theorem dX7_sumBy_5 : decode cX7_sumBy 5 = .ok (.invokevirtual 229, 3) := by decide +kernel
theorem dX7_sumBy_8 : decode cX7_sumBy 8 = .ok (.aload_n 0, 1) := by decide +kernel
theorem dX7_sumBy_9 : decode cX7_sumBy 9 = .ok (.sipush 1500, 3) := by decide +kernel
theorem dX7_sumBy_12 : decode cX7_sumBy 12 = .ok (.iload_n 1, 1) := by decide +kernel
theorem dX7_sumBy_13 : decode cX7_sumBy 13 = .ok (.invokevirtual 226, 3) := by decide +kernel
theorem dX7_sumBy_16 : decode cX7_sumBy 16 = .ok (.istore_n 3, 1) := by decide +kernel
theorem dX7_sumBy_17 : decode cX7_sumBy 17 = .ok (.iconst 0, 1) := by decide +kernel
theorem dX7_sumBy_18 : decode cX7_sumBy 18 = .ok (.istore 4, 2) := by decide +kernel
theorem dX7_sumBy_20 : decode cX7_sumBy 20 = .ok (.iload 4, 2) := by decide +kernel
theorem dX7_sumBy_22 : decode cX7_sumBy 22 = .ok (.iload_n 2, 1) := by decide +kernel
theorem dX7_sumBy_23 : decode cX7_sumBy 23 = .ok (.if_icmp .ge 16, 3) := by decide +kernel
theorem dX7_sumBy_26 : decode cX7_sumBy 26 = .ok (.aload_n 0, 1) := by decide +kernel
theorem dX7_sumBy_27 : decode cX7_sumBy 27 = .ok (.sipush 1500, 3) := by decide +kernel
theorem dX7_sumBy_30 : decode cX7_sumBy 30 = .ok (.invokevirtual 208, 3) := by decide +kernel
theorem dX7_sumBy_33 : decode cX7_sumBy 33 = .ok (.iinc 4 1, 3) := by decide +kernel
theorem dX7_sumBy_36 : decode cX7_sumBy 36 = .ok (.goto (-16), 3) := by decide +kernel
theorem dX7_sumBy_39 : decode cX7_sumBy 39 = .ok (.aload_n 0, 1) := by decide +kernel
theorem dX7_sumBy_40 : decode cX7_sumBy 40 = .ok (.iconst 0, 1) := by decide +kernel
theorem dX7_sumBy_41 : decode cX7_sumBy 41 = .ok (.putfield 232, 3) := by decide +kernel
theorem dX7_sumBy_44 : decode cX7_sumBy 44 = .ok (.iconst 0, 1) := by decide +kernel
theorem dX7_sumBy_45 : decode cX7_sumBy 45 = .ok (.istore 4, 2) := by decide +kernel
theorem dX7_sumBy_47 : decode cX7_sumBy 47 = .ok (.iload 4, 2) := by decide +kernel
theorem dX7_sumBy_49 : decode cX7_sumBy 49 = .ok (.aload_n 0, 1) := by decide +kernel
theorem dX7_sumBy_50 : decode cX7_sumBy 50 = .ok (.getfield 29, 3) := by decide +kernel
theorem dX7_sumBy_53 : decode cX7_sumBy 53 = .ok (.iconst 0, 1) := by decide +kernel
theorem dX7_sumBy_54 : decode cX7_sumBy 54 = .ok (.iaload, 1) := by decide +kernel
theorem dX7_sumBy_55 : decode cX7_sumBy 55 = .ok (.if_icmp .ge 64, 3) := by decide +kernel
theorem dX7_sumBy_58 : decode cX7_sumBy 58 = .ok (.aload_n 0, 1) := by decide +kernel
theorem dX7_sumBy_59 : decode cX7_sumBy 59 = .ok (.sipush 1500, 3) := by decide +kernel
theorem dX7_sumBy_62 : decode cX7_sumBy 62 = .ok (.iload 4, 2) := by decide +kernel
theorem dX7_sumBy_64 : decode cX7_sumBy 64 = .ok (.invokevirtual 137, 3) := by decide +kernel
theorem dX7_sumBy_67 : decode cX7_sumBy 67 = .ok (.istore 5, 2) := by decide +kernel
theorem dX7_sumBy_69 : decode cX7_sumBy 69 = .ok (.iload_n 3, 1) := by decide +kernel
theorem dX7_sumBy_70 : decode cX7_sumBy 70 = .ok (.iload 5, 2) := by decide +kernel
theorem dX7_sumBy_72 : decode cX7_sumBy 72 = .ok (.ifCond .eq 13, 3) := by decide +kernel
theorem dX7_sumBy_75 : decode cX7_sumBy 75 = .ok (.aload_n 0, 1) := by decide +kernel
theorem dX7_sumBy_76 : decode cX7_sumBy 76 = .ok (.getfield 17, 3) := by decide +kernel
theorem dX7_sumBy_79 : decode cX7_sumBy 79 = .ok (.iload 4, 2) := by decide +kernel
theorem dX7_sumBy_81 : decode cX7_sumBy 81 = .ok (.iaload, 1) := by decide +kernel
theorem dX7_sumBy_82 : decode cX7_sumBy 82 = .ok (.goto 4, 3) := by decide +kernel
theorem dX7_sumBy_85 : decode cX7_sumBy 85 = .ok (.iconst 0, 1) := by decide +kernel
theorem dX7_sumBy_86 : decode cX7_sumBy 86 = .ok (.iadd, 1) := by decide +kernel
theorem dX7_sumBy_87 : decode cX7_sumBy 87 = .ok (.istore_n 3, 1) := by decide +kernel
theorem dX7_sumBy_88 : decode cX7_sumBy 88 = .ok (.aload_n 0, 1) := by decide +kernel
theorem dX7_sumBy_89 : decode cX7_sumBy 89 = .ok (.dup, 1) := by decide +kernel
theorem dX7_sumBy_90 : decode cX7_sumBy 90 = .ok (.getfield 232, 3) := by decide +kernel
theorem dX7_sumBy_93 : decode cX7_sumBy 93 = .ok (.iload 5, 2) := by decide +kernel
theorem dX7_sumBy_95 : decode cX7_sumBy 95 = .ok (.ifCond .ne 7, 3) := by decide +kernel
theorem dX7_sumBy_98 : decode cX7_sumBy 98 = .ok (.iconst 1, 1) := by decide +kernel
theorem dX7_sumBy_99 : decode cX7_sumBy 99 = .ok (.goto 4, 3) := by decide +kernel
theorem dX7_sumBy_102 : decode cX7_sumBy 102 = .ok (.iconst 0, 1) := by decide +kernel
theorem dX7_sumBy_103 : decode cX7_sumBy 103 = .ok (.invokestatic 141, 3) := by decide +kernel
theorem dX7_sumBy_106 : decode cX7_sumBy 106 = .ok (.iload 4, 2) := by decide +kernel
theorem dX7_sumBy_108 : decode cX7_sumBy 108 = .ok (.ishl, 1) := by decide +kernel
theorem dX7_sumBy_109 : decode cX7_sumBy 109 = .ok (.ior, 1) := by decide +kernel
theorem dX7_sumBy_110 : decode cX7_sumBy 110 = .ok (.putfield 232, 3) := by decide +kernel
theorem dX7_sumBy_113 : decode cX7_sumBy 113 = .ok (.iinc 4 1, 3) := by decide +kernel
theorem dX7_sumBy_116 : decode cX7_sumBy 116 = .ok (.goto (-69), 3) := by decide +kernel
theorem dX7_sumBy_119 : decode cX7_sumBy 119 = .ok (.iload_n 3, 1) := by decide +kernel
theorem dX7_sumBy_120 : decode cX7_sumBy 120 = .ok (.ireturn, 1) := by decide +kernel
theorem dX7_best_0 : decode cX7_best 0 = .ok (.iload_n 1, 1) := by decide +kernel
theorem dX7_best_1 : decode cX7_best 1 = .ok (.i2l, 1) := by decide +kernel
theorem dX7_best_2 : decode cX7_best 2 = .ok (.lconst 0, 1) := by decide +kernel
theorem dX7_best_3 : decode cX7_best 3 = .ok (.ldc2_w 206, 3) := by decide +kernel
theorem dX7_best_6 : decode cX7_best 6 = .ok (.invokestatic 59, 3) := by decide +kernel
theorem dX7_best_9 : decode cX7_best 9 = .ok (.ifCond .eq 15, 3) := by decide +kernel
theorem dX7_best_12 : decode cX7_best 12 = .ok (.iload_n 2, 1) := by decide +kernel
theorem dX7_best_13 : decode cX7_best 13 = .ok (.i2l, 1) := by decide +kernel
theorem dX7_best_14 : decode cX7_best 14 = .ok (.lconst 0, 1) := by decide +kernel
theorem dX7_best_15 : decode cX7_best 15 = .ok (.ldc2_w 181, 3) := by decide +kernel
theorem dX7_best_18 : decode cX7_best 18 = .ok (.invokestatic 59, 3) := by decide +kernel
theorem dX7_best_21 : decode cX7_best 21 = .ok (.ifCond .ne 6, 3) := by decide +kernel
theorem dX7_best_24 : decode cX7_best 24 = .ok (.ldc 63, 2) := by decide +kernel
theorem dX7_best_26 : decode cX7_best 26 = .ok (.ireturn, 1) := by decide +kernel
theorem dX7_best_27 : decode cX7_best 27 = .ok (.iconst (-1), 1) := by decide +kernel
theorem dX7_best_28 : decode cX7_best 28 = .ok (.istore_n 3, 1) := by decide +kernel
theorem dX7_best_29 : decode cX7_best 29 = .ok (.iconst 0, 1) := by decide +kernel
theorem dX7_best_30 : decode cX7_best 30 = .ok (.istore 4, 2) := by decide +kernel
theorem dX7_best_32 : decode cX7_best 32 = .ok (.iconst 0, 1) := by decide +kernel
theorem dX7_best_33 : decode cX7_best 33 = .ok (.istore 5, 2) := by decide +kernel
theorem dX7_best_35 : decode cX7_best 35 = .ok (.iconst 0, 1) := by decide +kernel
theorem dX7_best_36 : decode cX7_best 36 = .ok (.istore 6, 2) := by decide +kernel
theorem dX7_best_38 : decode cX7_best 38 = .ok (.iload 6, 2) := by decide +kernel
theorem dX7_best_40 : decode cX7_best 40 = .ok (.iconst 1, 1) := by decide +kernel
theorem dX7_best_41 : decode cX7_best 41 = .ok (.aload_n 0, 1) := by decide +kernel
theorem dX7_best_42 : decode cX7_best 42 = .ok (.getfield 131, 3) := by decide +kernel
theorem dX7_best_45 : decode cX7_best 45 = .ok (.ishl, 1) := by decide +kernel
theorem dX7_best_46 : decode cX7_best 46 = .ok (.if_icmp .ge 61, 3) := by decide +kernel
theorem dX7_best_49 : decode cX7_best 49 = .ok (.aload_n 0, 1) := by decide +kernel
theorem dX7_best_50 : decode cX7_best 50 = .ok (.iload 6, 2) := by decide +kernel
theorem dX7_best_52 : decode cX7_best 52 = .ok (.iload_n 1, 1) := by decide +kernel
theorem dX7_best_53 : decode cX7_best 53 = .ok (.invokevirtual 235, 3) := by decide +kernel
theorem dX7_best_56 : decode cX7_best 56 = .ok (.istore 7, 2) := by decide +kernel
theorem dX7_best_58 : decode cX7_best 58 = .ok (.iload_n 3, 1) := by decide +kernel
theorem dX7_best_59 : decode cX7_best 59 = .ok (.ifCond .lt 29, 3) := by decide +kernel
theorem dX7_best_62 : decode cX7_best 62 = .ok (.iload 7, 2) := by decide +kernel
theorem dX7_best_64 : decode cX7_best 64 = .ok (.iload 4, 2) := by decide +kernel
theorem dX7_best_66 : decode cX7_best 66 = .ok (.if_icmp .gt 22, 3) := by decide +kernel
theorem dX7_best_69 : decode cX7_best 69 = .ok (.iload 7, 2) := by decide +kernel
theorem dX7_best_71 : decode cX7_best 71 = .ok (.iload 4, 2) := by decide +kernel
theorem dX7_best_73 : decode cX7_best 73 = .ok (.if_icmp .ne 28, 3) := by decide +kernel
theorem dX7_best_76 : decode cX7_best 76 = .ok (.iload 6, 2) := by decide +kernel
theorem dX7_best_78 : decode cX7_best 78 = .ok (.invokestatic 155, 3) := by decide +kernel
theorem dX7_best_81 : decode cX7_best 81 = .ok (.iload_n 3, 1) := by decide +kernel
theorem dX7_best_82 : decode cX7_best 82 = .ok (.invokestatic 155, 3) := by decide +kernel
theorem dX7_best_85 : decode cX7_best 85 = .ok (.if_icmp .ge 16, 3) := by decide +kernel
theorem dX7_best_88 : decode cX7_best 88 = .ok (.iload 6, 2) := by decide +kernel
theorem dX7_best_90 : decode cX7_best 90 = .ok (.istore_n 3, 1) := by decide +kernel
theorem dX7_best_91 : decode cX7_best 91 = .ok (.iload 7, 2) := by decide +kernel
theorem dX7_best_93 : decode cX7_best 93 = .ok (.istore 4, 2) := by decide +kernel
theorem dX7_best_95 : decode cX7_best 95 = .ok (.aload_n 0, 1) := by decide +kernel
theorem dX7_best_96 : decode cX7_best 96 = .ok (.getfield 232, 3) := by decide +kernel
theorem dX7_best_99 : decode cX7_best 99 = .ok (.istore 5, 2) := by decide +kernel
theorem dX7_best_101 : decode cX7_best 101 = .ok (.iinc 6 1, 3) := by decide +kernel
theorem dX7_best_104 : decode cX7_best 104 = .ok (.goto (-66), 3) := by decide +kernel
theorem dX7_best_107 : decode cX7_best 107 = .ok (.iload_n 2, 1) := by decide +kernel
theorem dX7_best_108 : decode cX7_best 108 = .ok (.ifCond .ne 7, 3) := by decide +kernel
theorem dX7_best_111 : decode cX7_best 111 = .ok (.iload_n 3, 1) := by decide +kernel
theorem dX7_best_112 : decode cX7_best 112 = .ok (.goto 15, 3) := by decide +kernel
theorem dX7_best_115 : decode cX7_best 115 = .ok (.iload_n 2, 1) := by decide +kernel
theorem dX7_best_116 : decode cX7_best 116 = .ok (.iconst 1, 1) := by decide +kernel
theorem dX7_best_117 : decode cX7_best 117 = .ok (.if_icmp .ne 8, 3) := by decide +kernel
theorem dX7_best_120 : decode cX7_best 120 = .ok (.iload 4, 2) := by decide +kernel
theorem dX7_best_122 : decode cX7_best 122 = .ok (.goto 5, 3) := by decide +kernel
theorem dX7_best_125 : decode cX7_best 125 = .ok (.iload 5, 2) := by decide +kernel
theorem dX7_best_127 : decode cX7_best 127 = .ok (.ireturn, 1) := by decide +kernel
theorem dX7_isTrue_0 : decode cX7_isTrue 0 = .ok (.aload_n 0, 1) := by decide +kernel
theorem dX7_isTrue_1 : decode cX7_isTrue 1 = .ok (.getfield 7, 3) := by decide +kernel
theorem dX7_isTrue_4 : decode cX7_isTrue 4 = .ok (.sipush 160, 3) := by decide +kernel
theorem dX7_isTrue_7 : decode cX7_isTrue 7 = .ok (.bipush 16, 2) := by decide +kernel
theorem dX7_isTrue_9 : decode cX7_isTrue 9 = .ok (.iload_n 1, 1) := by decide +kernel
theorem dX7_isTrue_10 : decode cX7_isTrue 10 = .ok (.imul, 1) := by decide +kernel
theorem dX7_isTrue_11 : decode cX7_isTrue 11 = .ok (.iadd, 1) := by decide +kernel
theorem dX7_isTrue_12 : decode cX7_isTrue 12 = .ok (.iload_n 2, 1) := by decide +kernel
theorem dX7_isTrue_13 : decode cX7_isTrue 13 = .ok (.iadd, 1) := by decide +kernel
theorem dX7_isTrue_14 : decode cX7_isTrue 14 = .ok (.iaload, 1) := by decide +kernel
theorem dX7_isTrue_15 : decode cX7_isTrue 15 = .ok (.ifCond .ne 7, 3) := by decide +kernel
theorem dX7_isTrue_18 : decode cX7_isTrue 18 = .ok (.iconst 1, 1) := by decide +kernel
theorem dX7_isTrue_19 : decode cX7_isTrue 19 = .ok (.goto 4, 3) := by decide +kernel
theorem dX7_isTrue_22 : decode cX7_isTrue 22 = .ok (.iconst 0, 1) := by decide +kernel
theorem dX7_isTrue_23 : decode cX7_isTrue 23 = .ok (.ireturn, 1) := by decide +kernel
theorem dX7_lesser_0 : decode cX7_lesser 0 = .ok (.iload_n 2, 1) := by decide +kernel
theorem dX7_lesser_1 : decode cX7_lesser 1 = .ok (.ifCond .eq 16, 3) := by decide +kernel
theorem dX7_lesser_4 : decode cX7_lesser 4 = .ok (.iload_n 0, 1) := by decide +kernel
theorem dX7_lesser_5 : decode cX7_lesser 5 = .ok (.ifCond .lt 8, 3) := by decide +kernel
theorem dX7_lesser_8 : decode cX7_lesser 8 = .ok (.iload_n 1, 1) := by decide +kernel
theorem dX7_lesser_9 : decode cX7_lesser 9 = .ok (.iload_n 0, 1) := by decide +kernel
theorem dX7_lesser_10 : decode cX7_lesser 10 = .ok (.if_icmp .ge 7, 3) := by decide +kernel
theorem dX7_lesser_13 : decode cX7_lesser 13 = .ok (.iload_n 1, 1) := by decide +kernel
theorem dX7_lesser_14 : decode cX7_lesser 14 = .ok (.goto 4, 3) := by decide +kernel
theorem dX7_lesser_17 : decode cX7_lesser 17 = .ok (.iload_n 0, 1) := by decide +kernel
theorem dX7_lesser_18 : decode cX7_lesser 18 = .ok (.ireturn, 1) := by decide +kernel
theorem dX7_fewest_0 : decode cX7_fewest 0 = .ok (.iconst 0, 1) := by decide +kernel
theorem dX7_fewest_1 : decode cX7_fewest 1 = .ok (.istore_n 3, 1) := by decide +kernel
theorem dX7_fewest_2 : decode cX7_fewest 2 = .ok (.iconst 0, 1) := by decide +kernel
theorem dX7_fewest_3 : decode cX7_fewest 3 = .ok (.istore 4, 2) := by decide +kernel
theorem dX7_fewest_5 : decode cX7_fewest 5 = .ok (.iconst 0, 1) := by decide +kernel
theorem dX7_fewest_6 : decode cX7_fewest 6 = .ok (.istore 5, 2) := by decide +kernel
theorem dX7_fewest_8 : decode cX7_fewest 8 = .ok (.iload 5, 2) := by decide +kernel
theorem dX7_fewest_10 : decode cX7_fewest 10 = .ok (.aload_n 0, 1) := by decide +kernel
theorem dX7_fewest_11 : decode cX7_fewest 11 = .ok (.getfield 29, 3) := by decide +kernel
theorem dX7_fewest_14 : decode cX7_fewest 14 = .ok (.iconst 1, 1) := by decide +kernel
theorem dX7_fewest_15 : decode cX7_fewest 15 = .ok (.iaload, 1) := by decide +kernel
theorem dX7_fewest_16 : decode cX7_fewest 16 = .ok (.if_icmp .ge 72, 3) := by decide +kernel
theorem dX7_fewest_19 : decode cX7_fewest 19 = .ok (.iload_n 2, 1) := by decide +kernel
theorem dX7_fewest_20 : decode cX7_fewest 20 = .ok (.iload 5, 2) := by decide +kernel
theorem dX7_fewest_22 : decode cX7_fewest 22 = .ok (.invokestatic 220, 3) := by decide +kernel
theorem dX7_fewest_25 : decode cX7_fewest 25 = .ok (.ifCond .eq 17, 3) := by decide +kernel
theorem dX7_fewest_28 : decode cX7_fewest 28 = .ok (.aload_n 0, 1) := by decide +kernel
theorem dX7_fewest_29 : decode cX7_fewest 29 = .ok (.iload 5, 2) := by decide +kernel
theorem dX7_fewest_31 : decode cX7_fewest 31 = .ok (.iload_n 1, 1) := by decide +kernel
theorem dX7_fewest_32 : decode cX7_fewest 32 = .ok (.invokevirtual 238, 3) := by decide +kernel
theorem dX7_fewest_35 : decode cX7_fewest 35 = .ok (.ifCond .ne 7, 3) := by decide +kernel
theorem dX7_fewest_38 : decode cX7_fewest 38 = .ok (.iconst 1, 1) := by decide +kernel
theorem dX7_fewest_39 : decode cX7_fewest 39 = .ok (.goto 4, 3) := by decide +kernel
theorem dX7_fewest_42 : decode cX7_fewest 42 = .ok (.iconst 0, 1) := by decide +kernel
theorem dX7_fewest_43 : decode cX7_fewest 43 = .ok (.istore 6, 2) := by decide +kernel
theorem dX7_fewest_45 : decode cX7_fewest 45 = .ok (.iload_n 3, 1) := by decide +kernel
theorem dX7_fewest_46 : decode cX7_fewest 46 = .ok (.iload 6, 2) := by decide +kernel
theorem dX7_fewest_48 : decode cX7_fewest 48 = .ok (.invokestatic 141, 3) := by decide +kernel
theorem dX7_fewest_51 : decode cX7_fewest 51 = .ok (.iadd, 1) := by decide +kernel
theorem dX7_fewest_52 : decode cX7_fewest 52 = .ok (.istore_n 3, 1) := by decide +kernel
theorem dX7_fewest_53 : decode cX7_fewest 53 = .ok (.iload 4, 2) := by decide +kernel
theorem dX7_fewest_55 : decode cX7_fewest 55 = .ok (.iload 6, 2) := by decide +kernel
theorem dX7_fewest_57 : decode cX7_fewest 57 = .ok (.ifCond .eq 18, 3) := by decide +kernel
theorem dX7_fewest_60 : decode cX7_fewest 60 = .ok (.aload_n 0, 1) := by decide +kernel
theorem dX7_fewest_61 : decode cX7_fewest 61 = .ok (.getfield 23, 3) := by decide +kernel
theorem dX7_fewest_64 : decode cX7_fewest 64 = .ok (.iload 5, 2) := by decide +kernel
theorem dX7_fewest_66 : decode cX7_fewest 66 = .ok (.iaload, 1) := by decide +kernel
theorem dX7_fewest_67 : decode cX7_fewest 67 = .ok (.iconst 3, 1) := by decide +kernel
theorem dX7_fewest_68 : decode cX7_fewest 68 = .ok (.if_icmp .ne 7, 3) := by decide +kernel
theorem dX7_fewest_71 : decode cX7_fewest 71 = .ok (.iconst 1, 1) := by decide +kernel
theorem dX7_fewest_72 : decode cX7_fewest 72 = .ok (.goto 4, 3) := by decide +kernel
theorem dX7_fewest_75 : decode cX7_fewest 75 = .ok (.iconst 0, 1) := by decide +kernel
theorem dX7_fewest_76 : decode cX7_fewest 76 = .ok (.invokestatic 141, 3) := by decide +kernel
theorem dX7_fewest_79 : decode cX7_fewest 79 = .ok (.iadd, 1) := by decide +kernel
theorem dX7_fewest_80 : decode cX7_fewest 80 = .ok (.istore 4, 2) := by decide +kernel
theorem dX7_fewest_82 : decode cX7_fewest 82 = .ok (.iinc 5 1, 3) := by decide +kernel
theorem dX7_fewest_85 : decode cX7_fewest 85 = .ok (.goto (-77), 3) := by decide +kernel
theorem dX7_fewest_88 : decode cX7_fewest 88 = .ok (.iconst 0, 1) := by decide +kernel
theorem dX7_fewest_89 : decode cX7_fewest 89 = .ok (.istore 5, 2) := by decide +kernel
theorem dX7_fewest_91 : decode cX7_fewest 91 = .ok (.iconst 0, 1) := by decide +kernel
theorem dX7_fewest_92 : decode cX7_fewest 92 = .ok (.istore 6, 2) := by decide +kernel
theorem dX7_fewest_94 : decode cX7_fewest 94 = .ok (.iconst 0, 1) := by decide +kernel
theorem dX7_fewest_95 : decode cX7_fewest 95 = .ok (.istore 7, 2) := by decide +kernel
theorem dX7_fewest_97 : decode cX7_fewest 97 = .ok (.iload 7, 2) := by decide +kernel
theorem dX7_fewest_99 : decode cX7_fewest 99 = .ok (.aload_n 0, 1) := by decide +kernel
theorem dX7_fewest_100 : decode cX7_fewest 100 = .ok (.getfield 7, 3) := by decide +kernel
theorem dX7_fewest_103 : decode cX7_fewest 103 = .ok (.sipush 1332, 3) := by decide +kernel
theorem dX7_fewest_106 : decode cX7_fewest 106 = .ok (.iaload, 1) := by decide +kernel
theorem dX7_fewest_107 : decode cX7_fewest 107 = .ok (.if_icmp .ge 69, 3) := by decide +kernel
theorem dX7_fewest_110 : decode cX7_fewest 110 = .ok (.aload_n 0, 1) := by decide +kernel
theorem dX7_fewest_111 : decode cX7_fewest 111 = .ok (.getfield 7, 3) := by decide +kernel
theorem dX7_fewest_114 : decode cX7_fewest 114 = .ok (.iload 7, 2) := by decide +kernel
theorem dX7_fewest_116 : decode cX7_fewest 116 = .ok (.iaload, 1) := by decide +kernel
theorem dX7_fewest_117 : decode cX7_fewest 117 = .ok (.iload_n 1, 1) := by decide +kernel
theorem dX7_fewest_118 : decode cX7_fewest 118 = .ok (.if_icmp .ne 52, 3) := by decide +kernel
theorem dX7_fewest_121 : decode cX7_fewest 121 = .ok (.aload_n 0, 1) := by decide +kernel
theorem dX7_fewest_122 : decode cX7_fewest 122 = .ok (.getfield 7, 3) := by decide +kernel
theorem dX7_fewest_125 : decode cX7_fewest 125 = .ok (.bipush 40, 2) := by decide +kernel
theorem dX7_fewest_127 : decode cX7_fewest 127 = .ok (.iload 7, 2) := by decide +kernel
theorem dX7_fewest_129 : decode cX7_fewest 129 = .ok (.iadd, 1) := by decide +kernel
theorem dX7_fewest_130 : decode cX7_fewest 130 = .ok (.iaload, 1) := by decide +kernel
theorem dX7_fewest_131 : decode cX7_fewest 131 = .ok (.ifCond .ne 39, 3) := by decide +kernel
theorem dX7_fewest_134 : decode cX7_fewest 134 = .ok (.aload_n 0, 1) := by decide +kernel
theorem dX7_fewest_135 : decode cX7_fewest 135 = .ok (.getfield 7, 3) := by decide +kernel
theorem dX7_fewest_138 : decode cX7_fewest 138 = .ok (.bipush 80, 2) := by decide +kernel
theorem dX7_fewest_140 : decode cX7_fewest 140 = .ok (.iload 7, 2) := by decide +kernel
theorem dX7_fewest_142 : decode cX7_fewest 142 = .ok (.iadd, 1) := by decide +kernel
theorem dX7_fewest_143 : decode cX7_fewest 143 = .ok (.iaload, 1) := by decide +kernel
theorem dX7_fewest_144 : decode cX7_fewest 144 = .ok (.bipush 9, 2) := by decide +kernel
theorem dX7_fewest_146 : decode cX7_fewest 146 = .ok (.if_icmp .ge 24, 3) := by decide +kernel
theorem dX7_fewest_149 : decode cX7_fewest 149 = .ok (.iinc 5 1, 3) := by decide +kernel
theorem dX7_fewest_152 : decode cX7_fewest 152 = .ok (.iload 6, 2) := by decide +kernel
theorem dX7_fewest_154 : decode cX7_fewest 154 = .ok (.bipush 9, 2) := by decide +kernel
theorem dX7_fewest_156 : decode cX7_fewest 156 = .ok (.aload_n 0, 1) := by decide +kernel
theorem dX7_fewest_157 : decode cX7_fewest 157 = .ok (.getfield 7, 3) := by decide +kernel
theorem dX7_fewest_160 : decode cX7_fewest 160 = .ok (.bipush 80, 2) := by decide +kernel
theorem dX7_fewest_162 : decode cX7_fewest 162 = .ok (.iload 7, 2) := by decide +kernel
theorem dX7_fewest_164 : decode cX7_fewest 164 = .ok (.iadd, 1) := by decide +kernel
theorem dX7_fewest_165 : decode cX7_fewest 165 = .ok (.iaload, 1) := by decide +kernel
theorem dX7_fewest_166 : decode cX7_fewest 166 = .ok (.isub, 1) := by decide +kernel
theorem dX7_fewest_167 : decode cX7_fewest 167 = .ok (.iadd, 1) := by decide +kernel
theorem dX7_fewest_168 : decode cX7_fewest 168 = .ok (.istore 6, 2) := by decide +kernel
theorem dX7_fewest_170 : decode cX7_fewest 170 = .ok (.iinc 7 1, 3) := by decide +kernel
theorem dX7_fewest_173 : decode cX7_fewest 173 = .ok (.goto (-76), 3) := by decide +kernel
theorem dX7_fewest_176 : decode cX7_fewest 176 = .ok (.iconst (-1), 1) := by decide +kernel
theorem dX7_fewest_177 : decode cX7_fewest 177 = .ok (.iload_n 3, 1) := by decide +kernel
theorem dX7_fewest_178 : decode cX7_fewest 178 = .ok (.iload_n 3, 1) := by decide +kernel
theorem dX7_fewest_179 : decode cX7_fewest 179 = .ok (.ifCond .eq 16, 3) := by decide +kernel
theorem dX7_fewest_182 : decode cX7_fewest 182 = .ok (.iload_n 3, 1) := by decide +kernel
theorem dX7_fewest_183 : decode cX7_fewest 183 = .ok (.iload 6, 2) := by decide +kernel
theorem dX7_fewest_185 : decode cX7_fewest 185 = .ok (.if_icmp .gt 14, 3) := by decide +kernel
theorem dX7_fewest_188 : decode cX7_fewest 188 = .ok (.iload 4, 2) := by decide +kernel
theorem dX7_fewest_190 : decode cX7_fewest 190 = .ok (.iload 5, 2) := by decide +kernel
theorem dX7_fewest_192 : decode cX7_fewest 192 = .ok (.if_icmp .gt 7, 3) := by decide +kernel
theorem dX7_fewest_195 : decode cX7_fewest 195 = .ok (.iconst 1, 1) := by decide +kernel
theorem dX7_fewest_196 : decode cX7_fewest 196 = .ok (.goto 4, 3) := by decide +kernel
theorem dX7_fewest_199 : decode cX7_fewest 199 = .ok (.iconst 0, 1) := by decide +kernel
theorem dX7_fewest_200 : decode cX7_fewest 200 = .ok (.invokestatic 241, 3) := by decide +kernel
theorem dX7_fewest_203 : decode cX7_fewest 203 = .ok (.istore 7, 2) := by decide +kernel
theorem dX7_fewest_205 : decode cX7_fewest 205 = .ok (.iconst 0, 1) := by decide +kernel
theorem dX7_fewest_206 : decode cX7_fewest 206 = .ok (.istore 8, 2) := by decide +kernel
theorem dX7_fewest_208 : decode cX7_fewest 208 = .ok (.iload 8, 2) := by decide +kernel
theorem dX7_fewest_210 : decode cX7_fewest 210 = .ok (.aload_n 0, 1) := by decide +kernel
theorem dX7_fewest_211 : decode cX7_fewest 211 = .ok (.getfield 29, 3) := by decide +kernel
theorem dX7_fewest_214 : decode cX7_fewest 214 = .ok (.iconst 1, 1) := by decide +kernel
theorem dX7_fewest_215 : decode cX7_fewest 215 = .ok (.iaload, 1) := by decide +kernel
theorem dX7_fewest_216 : decode cX7_fewest 216 = .ok (.if_icmp .ge 124, 3) := by decide +kernel
theorem dX7_fewest_219 : decode cX7_fewest 219 = .ok (.iload 7, 2) := by decide +kernel
theorem dX7_fewest_221 : decode cX7_fewest 221 = .ok (.iconst 1, 1) := by decide +kernel
theorem dX7_fewest_222 : decode cX7_fewest 222 = .ok (.aload_n 0, 1) := by decide +kernel
theorem dX7_fewest_223 : decode cX7_fewest 223 = .ok (.getfield 23, 3) := by decide +kernel
theorem dX7_fewest_226 : decode cX7_fewest 226 = .ok (.iload 8, 2) := by decide +kernel
theorem dX7_fewest_228 : decode cX7_fewest 228 = .ok (.iaload, 1) := by decide +kernel
theorem dX7_fewest_229 : decode cX7_fewest 229 = .ok (.iconst 1, 1) := by decide +kernel
theorem dX7_fewest_230 : decode cX7_fewest 230 = .ok (.if_icmp .ne 16, 3) := by decide +kernel
theorem dX7_fewest_233 : decode cX7_fewest 233 = .ok (.iload 5, 2) := by decide +kernel
theorem dX7_fewest_235 : decode cX7_fewest 235 = .ok (.ifCond .le 11, 3) := by decide +kernel
theorem dX7_fewest_238 : decode cX7_fewest 238 = .ok (.iload_n 3, 1) := by decide +kernel
theorem dX7_fewest_239 : decode cX7_fewest 239 = .ok (.ifCond .le 7, 3) := by decide +kernel
theorem dX7_fewest_242 : decode cX7_fewest 242 = .ok (.iconst 1, 1) := by decide +kernel
theorem dX7_fewest_243 : decode cX7_fewest 243 = .ok (.goto 4, 3) := by decide +kernel
theorem dX7_fewest_246 : decode cX7_fewest 246 = .ok (.iconst 0, 1) := by decide +kernel
theorem dX7_fewest_247 : decode cX7_fewest 247 = .ok (.invokestatic 241, 3) := by decide +kernel
theorem dX7_fewest_250 : decode cX7_fewest 250 = .ok (.istore 7, 2) := by decide +kernel
theorem dX7_fewest_252 : decode cX7_fewest 252 = .ok (.aload_n 0, 1) := by decide +kernel
theorem dX7_fewest_253 : decode cX7_fewest 253 = .ok (.getfield 23, 3) := by decide +kernel
theorem dX7_fewest_256 : decode cX7_fewest 256 = .ok (.iload 8, 2) := by decide +kernel
theorem dX7_fewest_258 : decode cX7_fewest 258 = .ok (.iaload, 1) := by decide +kernel
theorem dX7_fewest_259 : decode cX7_fewest 259 = .ok (.iconst 4, 1) := by decide +kernel
theorem dX7_fewest_260 : decode cX7_fewest 260 = .ok (.if_icmp .ne 74, 3) := by decide +kernel
theorem dX7_fewest_263 : decode cX7_fewest 263 = .ok (.aload_n 0, 1) := by decide +kernel
theorem dX7_fewest_264 : decode cX7_fewest 264 = .ok (.iload 8, 2) := by decide +kernel
theorem dX7_fewest_266 : decode cX7_fewest 266 = .ok (.iload_n 1, 1) := by decide +kernel
theorem dX7_fewest_267 : decode cX7_fewest 267 = .ok (.invokevirtual 238, 3) := by decide +kernel
theorem dX7_fewest_270 : decode cX7_fewest 270 = .ok (.istore 9, 2) := by decide +kernel
theorem dX7_fewest_272 : decode cX7_fewest 272 = .ok (.iload_n 3, 1) := by decide +kernel
theorem dX7_fewest_273 : decode cX7_fewest 273 = .ok (.iload 9, 2) := by decide +kernel
theorem dX7_fewest_275 : decode cX7_fewest 275 = .ok (.ifCond .ne 16, 3) := by decide +kernel
theorem dX7_fewest_278 : decode cX7_fewest 278 = .ok (.iload_n 2, 1) := by decide +kernel
theorem dX7_fewest_279 : decode cX7_fewest 279 = .ok (.iload 8, 2) := by decide +kernel
theorem dX7_fewest_281 : decode cX7_fewest 281 = .ok (.invokestatic 220, 3) := by decide +kernel
theorem dX7_fewest_284 : decode cX7_fewest 284 = .ok (.ifCond .eq 7, 3) := by decide +kernel
theorem dX7_fewest_287 : decode cX7_fewest 287 = .ok (.iconst 1, 1) := by decide +kernel
theorem dX7_fewest_288 : decode cX7_fewest 288 = .ok (.goto 4, 3) := by decide +kernel
theorem dX7_fewest_291 : decode cX7_fewest 291 = .ok (.iconst 0, 1) := by decide +kernel
theorem dX7_fewest_292 : decode cX7_fewest 292 = .ok (.invokestatic 141, 3) := by decide +kernel
theorem dX7_fewest_295 : decode cX7_fewest 295 = .ok (.isub, 1) := by decide +kernel
theorem dX7_fewest_296 : decode cX7_fewest 296 = .ok (.istore 10, 2) := by decide +kernel
theorem dX7_fewest_298 : decode cX7_fewest 298 = .ok (.iload 7, 2) := by decide +kernel
theorem dX7_fewest_300 : decode cX7_fewest 300 = .ok (.iload 9, 2) := by decide +kernel
theorem dX7_fewest_302 : decode cX7_fewest 302 = .ok (.ifCond .eq 8, 3) := by decide +kernel
theorem dX7_fewest_305 : decode cX7_fewest 305 = .ok (.iload 10, 2) := by decide +kernel
theorem dX7_fewest_307 : decode cX7_fewest 307 = .ok (.goto 7, 3) := by decide +kernel
theorem dX7_fewest_310 : decode cX7_fewest 310 = .ok (.iconst 1, 1) := by decide +kernel
theorem dX7_fewest_311 : decode cX7_fewest 311 = .ok (.iload 10, 2) := by decide +kernel
theorem dX7_fewest_313 : decode cX7_fewest 313 = .ok (.iadd, 1) := by decide +kernel
theorem dX7_fewest_314 : decode cX7_fewest 314 = .ok (.iload 9, 2) := by decide +kernel
theorem dX7_fewest_316 : decode cX7_fewest 316 = .ok (.ifCond .ne 8, 3) := by decide +kernel
theorem dX7_fewest_319 : decode cX7_fewest 319 = .ok (.iload 5, 2) := by decide +kernel
theorem dX7_fewest_321 : decode cX7_fewest 321 = .ok (.ifCond .le 7, 3) := by decide +kernel
theorem dX7_fewest_324 : decode cX7_fewest 324 = .ok (.iconst 1, 1) := by decide +kernel
theorem dX7_fewest_325 : decode cX7_fewest 325 = .ok (.goto 4, 3) := by decide +kernel
theorem dX7_fewest_328 : decode cX7_fewest 328 = .ok (.iconst 0, 1) := by decide +kernel
theorem dX7_fewest_329 : decode cX7_fewest 329 = .ok (.invokestatic 241, 3) := by decide +kernel
theorem dX7_fewest_332 : decode cX7_fewest 332 = .ok (.istore 7, 2) := by decide +kernel
theorem dX7_fewest_334 : decode cX7_fewest 334 = .ok (.iinc 8 1, 3) := by decide +kernel
theorem dX7_fewest_337 : decode cX7_fewest 337 = .ok (.goto (-129), 3) := by decide +kernel
theorem dX7_fewest_340 : decode cX7_fewest 340 = .ok (.iload 7, 2) := by decide +kernel
theorem dX7_fewest_342 : decode cX7_fewest 342 = .ok (.ireturn, 1) := by decide +kernel
theorem dX7_toKnow_0 : decode cX7_toKnow 0 = .ok (.iload_n 1, 1) := by decide +kernel
theorem dX7_toKnow_1 : decode cX7_toKnow 1 = .ok (.i2l, 1) := by decide +kernel
theorem dX7_toKnow_2 : decode cX7_toKnow 2 = .ok (.lconst 0, 1) := by decide +kernel
theorem dX7_toKnow_3 : decode cX7_toKnow 3 = .ok (.iconst 1, 1) := by decide +kernel
theorem dX7_toKnow_4 : decode cX7_toKnow 4 = .ok (.aload_n 0, 1) := by decide +kernel
theorem dX7_toKnow_5 : decode cX7_toKnow 5 = .ok (.getfield 29, 3) := by decide +kernel
theorem dX7_toKnow_8 : decode cX7_toKnow 8 = .ok (.iconst 0, 1) := by decide +kernel
theorem dX7_toKnow_9 : decode cX7_toKnow 9 = .ok (.iaload, 1) := by decide +kernel
theorem dX7_toKnow_10 : decode cX7_toKnow 10 = .ok (.ishl, 1) := by decide +kernel
theorem dX7_toKnow_11 : decode cX7_toKnow 11 = .ok (.iconst 1, 1) := by decide +kernel
theorem dX7_toKnow_12 : decode cX7_toKnow 12 = .ok (.isub, 1) := by decide +kernel
theorem dX7_toKnow_13 : decode cX7_toKnow 13 = .ok (.i2l, 1) := by decide +kernel
theorem dX7_toKnow_14 : decode cX7_toKnow 14 = .ok (.invokestatic 59, 3) := by decide +kernel
theorem dX7_toKnow_17 : decode cX7_toKnow 17 = .ok (.ifCond .eq 23, 3) := by decide +kernel
theorem dX7_toKnow_20 : decode cX7_toKnow 20 = .ok (.iload_n 2, 1) := by decide +kernel
theorem dX7_toKnow_21 : decode cX7_toKnow 21 = .ok (.i2l, 1) := by decide +kernel
theorem dX7_toKnow_22 : decode cX7_toKnow 22 = .ok (.lconst 0, 1) := by decide +kernel
theorem dX7_toKnow_23 : decode cX7_toKnow 23 = .ok (.iconst 1, 1) := by decide +kernel
theorem dX7_toKnow_24 : decode cX7_toKnow 24 = .ok (.aload_n 0, 1) := by decide +kernel
theorem dX7_toKnow_25 : decode cX7_toKnow 25 = .ok (.getfield 29, 3) := by decide +kernel
theorem dX7_toKnow_28 : decode cX7_toKnow 28 = .ok (.iconst 1, 1) := by decide +kernel
theorem dX7_toKnow_29 : decode cX7_toKnow 29 = .ok (.iaload, 1) := by decide +kernel
theorem dX7_toKnow_30 : decode cX7_toKnow 30 = .ok (.ishl, 1) := by decide +kernel
theorem dX7_toKnow_31 : decode cX7_toKnow 31 = .ok (.iconst 1, 1) := by decide +kernel
theorem dX7_toKnow_32 : decode cX7_toKnow 32 = .ok (.isub, 1) := by decide +kernel
theorem dX7_toKnow_33 : decode cX7_toKnow 33 = .ok (.i2l, 1) := by decide +kernel
theorem dX7_toKnow_34 : decode cX7_toKnow 34 = .ok (.invokestatic 59, 3) := by decide +kernel
theorem dX7_toKnow_37 : decode cX7_toKnow 37 = .ok (.ifCond .ne 6, 3) := by decide +kernel
theorem dX7_toKnow_40 : decode cX7_toKnow 40 = .ok (.ldc 165, 2) := by decide +kernel
theorem dX7_toKnow_42 : decode cX7_toKnow 42 = .ok (.ireturn, 1) := by decide +kernel
theorem dX7_toKnow_43 : decode cX7_toKnow 43 = .ok (.iconst 0, 1) := by decide +kernel
theorem dX7_toKnow_44 : decode cX7_toKnow 44 = .ok (.istore_n 3, 1) := by decide +kernel
theorem dX7_toKnow_45 : decode cX7_toKnow 45 = .ok (.iconst 0, 1) := by decide +kernel
theorem dX7_toKnow_46 : decode cX7_toKnow 46 = .ok (.istore 4, 2) := by decide +kernel
theorem dX7_toKnow_48 : decode cX7_toKnow 48 = .ok (.iload 4, 2) := by decide +kernel
theorem dX7_toKnow_50 : decode cX7_toKnow 50 = .ok (.aload_n 0, 1) := by decide +kernel
theorem dX7_toKnow_51 : decode cX7_toKnow 51 = .ok (.getfield 29, 3) := by decide +kernel
theorem dX7_toKnow_54 : decode cX7_toKnow 54 = .ok (.iconst 0, 1) := by decide +kernel
theorem dX7_toKnow_55 : decode cX7_toKnow 55 = .ok (.iaload, 1) := by decide +kernel
theorem dX7_toKnow_56 : decode cX7_toKnow 56 = .ok (.if_icmp .ge 39, 3) := by decide +kernel
theorem dX7_toKnow_59 : decode cX7_toKnow 59 = .ok (.iload_n 1, 1) := by decide +kernel
theorem dX7_toKnow_60 : decode cX7_toKnow 60 = .ok (.iload 4, 2) := by decide +kernel
theorem dX7_toKnow_62 : decode cX7_toKnow 62 = .ok (.invokestatic 220, 3) := by decide +kernel
theorem dX7_toKnow_65 : decode cX7_toKnow 65 = .ok (.ifCond .eq 24, 3) := by decide +kernel
theorem dX7_toKnow_68 : decode cX7_toKnow 68 = .ok (.aload_n 0, 1) := by decide +kernel
theorem dX7_toKnow_69 : decode cX7_toKnow 69 = .ok (.iload 4, 2) := by decide +kernel
theorem dX7_toKnow_71 : decode cX7_toKnow 71 = .ok (.iload_n 2, 1) := by decide +kernel
theorem dX7_toKnow_72 : decode cX7_toKnow 72 = .ok (.invokevirtual 245, 3) := by decide +kernel
theorem dX7_toKnow_75 : decode cX7_toKnow 75 = .ok (.istore 5, 2) := by decide +kernel
theorem dX7_toKnow_77 : decode cX7_toKnow 77 = .ok (.iload 5, 2) := by decide +kernel
theorem dX7_toKnow_79 : decode cX7_toKnow 79 = .ok (.ifCond .ge 5, 3) := by decide +kernel
theorem dX7_toKnow_82 : decode cX7_toKnow 82 = .ok (.iconst (-1), 1) := by decide +kernel
theorem dX7_toKnow_83 : decode cX7_toKnow 83 = .ok (.ireturn, 1) := by decide +kernel
theorem dX7_toKnow_84 : decode cX7_toKnow 84 = .ok (.iload_n 3, 1) := by decide +kernel
theorem dX7_toKnow_85 : decode cX7_toKnow 85 = .ok (.iload 5, 2) := by decide +kernel
theorem dX7_toKnow_87 : decode cX7_toKnow 87 = .ok (.iadd, 1) := by decide +kernel
theorem dX7_toKnow_88 : decode cX7_toKnow 88 = .ok (.istore_n 3, 1) := by decide +kernel
theorem dX7_toKnow_89 : decode cX7_toKnow 89 = .ok (.iinc 4 1, 3) := by decide +kernel
theorem dX7_toKnow_92 : decode cX7_toKnow 92 = .ok (.goto (-44), 3) := by decide +kernel
theorem dX7_toKnow_95 : decode cX7_toKnow 95 = .ok (.iload_n 3, 1) := by decide +kernel
theorem dX7_toKnow_96 : decode cX7_toKnow 96 = .ok (.ireturn, 1) := by decide +kernel
theorem dX7_life_0 : decode cX7_life 0 = .ok (.iload_n 1, 1) := by decide +kernel
theorem dX7_life_1 : decode cX7_life 1 = .ok (.i2l, 1) := by decide +kernel
theorem dX7_life_2 : decode cX7_life 2 = .ok (.lconst 0, 1) := by decide +kernel
theorem dX7_life_3 : decode cX7_life 3 = .ok (.ldc2_w 248, 3) := by decide +kernel
theorem dX7_life_6 : decode cX7_life 6 = .ok (.invokestatic 59, 3) := by decide +kernel
theorem dX7_life_9 : decode cX7_life 9 = .ok (.ifCond .eq 27, 3) := by decide +kernel
theorem dX7_life_12 : decode cX7_life 12 = .ok (.iload_n 2, 1) := by decide +kernel
theorem dX7_life_13 : decode cX7_life 13 = .ok (.i2l, 1) := by decide +kernel
theorem dX7_life_14 : decode cX7_life 14 = .ok (.lconst 1, 1) := by decide +kernel
theorem dX7_life_15 : decode cX7_life 15 = .ok (.ldc2_w 218, 3) := by decide +kernel
theorem dX7_life_18 : decode cX7_life 18 = .ok (.invokestatic 59, 3) := by decide +kernel
theorem dX7_life_21 : decode cX7_life 21 = .ok (.ifCond .eq 15, 3) := by decide +kernel
theorem dX7_life_24 : decode cX7_life 24 = .ok (.iload_n 3, 1) := by decide +kernel
theorem dX7_life_25 : decode cX7_life 25 = .ok (.i2l, 1) := by decide +kernel
theorem dX7_life_26 : decode cX7_life 26 = .ok (.lconst 0, 1) := by decide +kernel
theorem dX7_life_27 : decode cX7_life 27 = .ok (.ldc2_w 206, 3) := by decide +kernel
theorem dX7_life_30 : decode cX7_life 30 = .ok (.invokestatic 59, 3) := by decide +kernel
theorem dX7_life_33 : decode cX7_life 33 = .ok (.ifCond .ne 6, 3) := by decide +kernel
theorem dX7_life_36 : decode cX7_life 36 = .ok (.ldc 63, 2) := by decide +kernel
theorem dX7_life_38 : decode cX7_life 38 = .ok (.ireturn, 1) := by decide +kernel
theorem dX7_life_39 : decode cX7_life 39 = .ok (.iconst 0, 1) := by decide +kernel
theorem dX7_life_40 : decode cX7_life 40 = .ok (.istore 4, 2) := by decide +kernel
theorem dX7_life_42 : decode cX7_life 42 = .ok (.iload 4, 2) := by decide +kernel
theorem dX7_life_44 : decode cX7_life 44 = .ok (.bipush 9, 2) := by decide +kernel
theorem dX7_life_46 : decode cX7_life 46 = .ok (.if_icmp .gt 28, 3) := by decide +kernel
theorem dX7_life_49 : decode cX7_life 49 = .ok (.aload_n 0, 1) := by decide +kernel
theorem dX7_life_50 : decode cX7_life 50 = .ok (.getfield 51, 3) := by decide +kernel
theorem dX7_life_53 : decode cX7_life 53 = .ok (.iload 4, 2) := by decide +kernel
theorem dX7_life_55 : decode cX7_life 55 = .ok (.iload 4, 2) := by decide +kernel
theorem dX7_life_57 : decode cX7_life 57 = .ok (.iload_n 1, 1) := by decide +kernel
theorem dX7_life_58 : decode cX7_life 58 = .ok (.if_icmp .ne 8, 3) := by decide +kernel
theorem dX7_life_61 : decode cX7_life 61 = .ok (.ldc 250, 2) := by decide +kernel
theorem dX7_life_63 : decode cX7_life 63 = .ok (.goto 4, 3) := by decide +kernel
theorem dX7_life_66 : decode cX7_life 66 = .ok (.iconst 0, 1) := by decide +kernel
theorem dX7_life_67 : decode cX7_life 67 = .ok (.iastore, 1) := by decide +kernel
theorem dX7_life_68 : decode cX7_life 68 = .ok (.iinc 4 1, 3) := by decide +kernel
theorem dX7_life_71 : decode cX7_life 71 = .ok (.goto (-29), 3) := by decide +kernel
theorem dX7_life_74 : decode cX7_life 74 = .ok (.iconst 0, 1) := by decide +kernel
theorem dX7_life_75 : decode cX7_life 75 = .ok (.istore 4, 2) := by decide +kernel
theorem dX7_life_77 : decode cX7_life 77 = .ok (.iload 4, 2) := by decide +kernel
theorem dX7_life_79 : decode cX7_life 79 = .ok (.iload_n 3, 1) := by decide +kernel
theorem dX7_life_80 : decode cX7_life 80 = .ok (.if_icmp .ge 61, 3) := by decide +kernel
theorem dX7_life_83 : decode cX7_life 83 = .ok (.bipush 8, 2) := by decide +kernel
theorem dX7_life_85 : decode cX7_life 85 = .ok (.istore 5, 2) := by decide +kernel
theorem dX7_life_87 : decode cX7_life 87 = .ok (.iload 5, 2) := by decide +kernel
theorem dX7_life_89 : decode cX7_life 89 = .ok (.ifCond .lt 46, 3) := by decide +kernel
theorem dX7_life_92 : decode cX7_life 92 = .ok (.aload_n 0, 1) := by decide +kernel
theorem dX7_life_93 : decode cX7_life 93 = .ok (.getfield 51, 3) := by decide +kernel
theorem dX7_life_96 : decode cX7_life 96 = .ok (.iload 5, 2) := by decide +kernel
theorem dX7_life_98 : decode cX7_life 98 = .ok (.iaload, 1) := by decide +kernel
theorem dX7_life_99 : decode cX7_life 99 = .ok (.iload_n 2, 1) := by decide +kernel
theorem dX7_life_100 : decode cX7_life 100 = .ok (.idiv, 1) := by decide +kernel
theorem dX7_life_101 : decode cX7_life 101 = .ok (.istore 6, 2) := by decide +kernel
theorem dX7_life_103 : decode cX7_life 103 = .ok (.aload_n 0, 1) := by decide +kernel
theorem dX7_life_104 : decode cX7_life 104 = .ok (.getfield 51, 3) := by decide +kernel
theorem dX7_life_107 : decode cX7_life 107 = .ok (.iload 5, 2) := by decide +kernel
theorem dX7_life_109 : decode cX7_life 109 = .ok (.dup2, 1) := by decide +kernel
theorem dX7_life_110 : decode cX7_life 110 = .ok (.iaload, 1) := by decide +kernel
theorem dX7_life_111 : decode cX7_life 111 = .ok (.iload 6, 2) := by decide +kernel
theorem dX7_life_113 : decode cX7_life 113 = .ok (.isub, 1) := by decide +kernel
theorem dX7_life_114 : decode cX7_life 114 = .ok (.iastore, 1) := by decide +kernel
theorem dX7_life_115 : decode cX7_life 115 = .ok (.aload_n 0, 1) := by decide +kernel
theorem dX7_life_116 : decode cX7_life 116 = .ok (.getfield 51, 3) := by decide +kernel
theorem dX7_life_119 : decode cX7_life 119 = .ok (.iload 5, 2) := by decide +kernel
theorem dX7_life_121 : decode cX7_life 121 = .ok (.iconst 1, 1) := by decide +kernel
theorem dX7_life_122 : decode cX7_life 122 = .ok (.iadd, 1) := by decide +kernel
theorem dX7_life_123 : decode cX7_life 123 = .ok (.dup2, 1) := by decide +kernel
theorem dX7_life_124 : decode cX7_life 124 = .ok (.iaload, 1) := by decide +kernel
theorem dX7_life_125 : decode cX7_life 125 = .ok (.iload 6, 2) := by decide +kernel
theorem dX7_life_127 : decode cX7_life 127 = .ok (.iadd, 1) := by decide +kernel
theorem dX7_life_128 : decode cX7_life 128 = .ok (.iastore, 1) := by decide +kernel
theorem dX7_life_129 : decode cX7_life 129 = .ok (.iinc 5 (-1), 3) := by decide +kernel
theorem dX7_life_132 : decode cX7_life 132 = .ok (.goto (-45), 3) := by decide +kernel
theorem dX7_life_135 : decode cX7_life 135 = .ok (.iinc 4 1, 3) := by decide +kernel
theorem dX7_life_138 : decode cX7_life 138 = .ok (.goto (-61), 3) := by decide +kernel
theorem dX7_life_141 : decode cX7_life 141 = .ok (.ldc 250, 2) := by decide +kernel
theorem dX7_life_143 : decode cX7_life 143 = .ok (.aload_n 0, 1) := by decide +kernel
theorem dX7_life_144 : decode cX7_life 144 = .ok (.getfield 51, 3) := by decide +kernel
theorem dX7_life_147 : decode cX7_life 147 = .ok (.bipush 9, 2) := by decide +kernel
theorem dX7_life_149 : decode cX7_life 149 = .ok (.iaload, 1) := by decide +kernel
theorem dX7_life_150 : decode cX7_life 150 = .ok (.isub, 1) := by decide +kernel
theorem dX7_life_151 : decode cX7_life 151 = .ok (.ireturn, 1) := by decide +kernel
theorem dX7_right_0 : decode cX7_right 0 = .ok (.iload_n 1, 1) := by decide +kernel
theorem dX7_right_1 : decode cX7_right 1 = .ok (.i2l, 1) := by decide +kernel
theorem dX7_right_2 : decode cX7_right 2 = .ok (.lconst 1, 1) := by decide +kernel
theorem dX7_right_3 : decode cX7_right 3 = .ok (.ldc2_w 251, 3) := by decide +kernel
theorem dX7_right_6 : decode cX7_right 6 = .ok (.invokestatic 59, 3) := by decide +kernel
theorem dX7_right_9 : decode cX7_right 9 = .ok (.ifCond .ne 6, 3) := by decide +kernel
theorem dX7_right_12 : decode cX7_right 12 = .ok (.ldc 63, 2) := by decide +kernel
theorem dX7_right_14 : decode cX7_right 14 = .ok (.ireturn, 1) := by decide +kernel
theorem dX7_right_15 : decode cX7_right 15 = .ok (.iconst 0, 1) := by decide +kernel
theorem dX7_right_16 : decode cX7_right 16 = .ok (.istore_n 2, 1) := by decide +kernel
theorem dX7_right_17 : decode cX7_right 17 = .ok (.iload_n 2, 1) := by decide +kernel
theorem dX7_right_18 : decode cX7_right 18 = .ok (.bipush 42, 2) := by decide +kernel
theorem dX7_right_20 : decode cX7_right 20 = .ok (.if_icmp .ge 25, 3) := by decide +kernel
theorem dX7_right_23 : decode cX7_right 23 = .ok (.aload_n 0, 1) := by decide +kernel
theorem dX7_right_24 : decode cX7_right 24 = .ok (.getfield 51, 3) := by decide +kernel
theorem dX7_right_27 : decode cX7_right 27 = .ok (.iload_n 2, 1) := by decide +kernel
theorem dX7_right_28 : decode cX7_right 28 = .ok (.iload_n 2, 1) := by decide +kernel
theorem dX7_right_29 : decode cX7_right 29 = .ok (.ifCond .ne 8, 3) := by decide +kernel
theorem dX7_right_32 : decode cX7_right 32 = .ok (.ldc 253, 2) := by decide +kernel
theorem dX7_right_34 : decode cX7_right 34 = .ok (.goto 4, 3) := by decide +kernel
theorem dX7_right_37 : decode cX7_right 37 = .ok (.iconst 0, 1) := by decide +kernel
theorem dX7_right_38 : decode cX7_right 38 = .ok (.iastore, 1) := by decide +kernel
theorem dX7_right_39 : decode cX7_right 39 = .ok (.iinc 2 1, 3) := by decide +kernel
theorem dX7_right_42 : decode cX7_right 42 = .ok (.goto (-25), 3) := by decide +kernel
theorem dX7_right_45 : decode cX7_right 45 = .ok (.iconst 0, 1) := by decide +kernel
theorem dX7_right_46 : decode cX7_right 46 = .ok (.istore_n 2, 1) := by decide +kernel
theorem dX7_right_47 : decode cX7_right 47 = .ok (.iload_n 2, 1) := by decide +kernel
theorem dX7_right_48 : decode cX7_right 48 = .ok (.iload_n 1, 1) := by decide +kernel
theorem dX7_right_49 : decode cX7_right 49 = .ok (.if_icmp .ge 65, 3) := by decide +kernel
theorem dX7_right_52 : decode cX7_right 52 = .ok (.iload_n 2, 1) := by decide +kernel
theorem dX7_right_53 : decode cX7_right 53 = .ok (.istore_n 3, 1) := by decide +kernel
theorem dX7_right_54 : decode cX7_right 54 = .ok (.iload_n 3, 1) := by decide +kernel
theorem dX7_right_55 : decode cX7_right 55 = .ok (.ifCond .lt 53, 3) := by decide +kernel
theorem dX7_right_58 : decode cX7_right 58 = .ok (.aload_n 0, 1) := by decide +kernel
theorem dX7_right_59 : decode cX7_right 59 = .ok (.getfield 51, 3) := by decide +kernel
theorem dX7_right_62 : decode cX7_right 62 = .ok (.iload_n 3, 1) := by decide +kernel
theorem dX7_right_63 : decode cX7_right 63 = .ok (.iaload, 1) := by decide +kernel
theorem dX7_right_64 : decode cX7_right 64 = .ok (.aload_n 0, 1) := by decide +kernel
theorem dX7_right_65 : decode cX7_right 65 = .ok (.getfield 32, 3) := by decide +kernel
theorem dX7_right_68 : decode cX7_right 68 = .ok (.imul, 1) := by decide +kernel
theorem dX7_right_69 : decode cX7_right 69 = .ok (.bipush 100, 2) := by decide +kernel
theorem dX7_right_71 : decode cX7_right 71 = .ok (.idiv, 1) := by decide +kernel
theorem dX7_right_72 : decode cX7_right 72 = .ok (.istore 4, 2) := by decide +kernel
theorem dX7_right_74 : decode cX7_right 74 = .ok (.aload_n 0, 1) := by decide +kernel
theorem dX7_right_75 : decode cX7_right 75 = .ok (.getfield 51, 3) := by decide +kernel
theorem dX7_right_78 : decode cX7_right 78 = .ok (.iload_n 3, 1) := by decide +kernel
theorem dX7_right_79 : decode cX7_right 79 = .ok (.iconst 1, 1) := by decide +kernel
theorem dX7_right_80 : decode cX7_right 80 = .ok (.iadd, 1) := by decide +kernel
theorem dX7_right_81 : decode cX7_right 81 = .ok (.dup2, 1) := by decide +kernel
theorem dX7_right_82 : decode cX7_right 82 = .ok (.iaload, 1) := by decide +kernel
theorem dX7_right_83 : decode cX7_right 83 = .ok (.aload_n 0, 1) := by decide +kernel
theorem dX7_right_84 : decode cX7_right 84 = .ok (.getfield 51, 3) := by decide +kernel
theorem dX7_right_87 : decode cX7_right 87 = .ok (.iload_n 3, 1) := by decide +kernel
theorem dX7_right_88 : decode cX7_right 88 = .ok (.iaload, 1) := by decide +kernel
theorem dX7_right_89 : decode cX7_right 89 = .ok (.iload 4, 2) := by decide +kernel
theorem dX7_right_91 : decode cX7_right 91 = .ok (.isub, 1) := by decide +kernel
theorem dX7_right_92 : decode cX7_right 92 = .ok (.iadd, 1) := by decide +kernel
theorem dX7_right_93 : decode cX7_right 93 = .ok (.iastore, 1) := by decide +kernel
theorem dX7_right_94 : decode cX7_right 94 = .ok (.aload_n 0, 1) := by decide +kernel
theorem dX7_right_95 : decode cX7_right 95 = .ok (.getfield 51, 3) := by decide +kernel
theorem dX7_right_98 : decode cX7_right 98 = .ok (.iload_n 3, 1) := by decide +kernel
theorem dX7_right_99 : decode cX7_right 99 = .ok (.iload 4, 2) := by decide +kernel
theorem dX7_right_101 : decode cX7_right 101 = .ok (.iastore, 1) := by decide +kernel
theorem dX7_right_102 : decode cX7_right 102 = .ok (.iinc 3 (-1), 3) := by decide +kernel
theorem dX7_right_105 : decode cX7_right 105 = .ok (.goto (-51), 3) := by decide +kernel
theorem dX7_right_108 : decode cX7_right 108 = .ok (.iinc 2 1, 3) := by decide +kernel
theorem dX7_right_111 : decode cX7_right 111 = .ok (.goto (-64), 3) := by decide +kernel
theorem dX7_right_114 : decode cX7_right 114 = .ok (.iconst 0, 1) := by decide +kernel
theorem dX7_right_115 : decode cX7_right 115 = .ok (.istore_n 2, 1) := by decide +kernel
theorem dX7_right_116 : decode cX7_right 116 = .ok (.iconst 0, 1) := by decide +kernel
theorem dX7_right_117 : decode cX7_right 117 = .ok (.istore_n 3, 1) := by decide +kernel
theorem dX7_right_118 : decode cX7_right 118 = .ok (.iload_n 3, 1) := by decide +kernel
theorem dX7_right_119 : decode cX7_right 119 = .ok (.iload_n 1, 1) := by decide +kernel
theorem dX7_right_120 : decode cX7_right 120 = .ok (.if_icmp .gt 29, 3) := by decide +kernel
theorem dX7_right_123 : decode cX7_right 123 = .ok (.iload_n 2, 1) := by decide +kernel
theorem dX7_right_124 : decode cX7_right 124 = .ok (.iconst 2, 1) := by decide +kernel
theorem dX7_right_125 : decode cX7_right 125 = .ok (.iload_n 3, 1) := by decide +kernel
theorem dX7_right_126 : decode cX7_right 126 = .ok (.imul, 1) := by decide +kernel
theorem dX7_right_127 : decode cX7_right 127 = .ok (.iload_n 1, 1) := by decide +kernel
theorem dX7_right_128 : decode cX7_right 128 = .ok (.if_icmp .le 12, 3) := by decide +kernel
theorem dX7_right_131 : decode cX7_right 131 = .ok (.aload_n 0, 1) := by decide +kernel
theorem dX7_right_132 : decode cX7_right 132 = .ok (.getfield 51, 3) := by decide +kernel
theorem dX7_right_135 : decode cX7_right 135 = .ok (.iload_n 3, 1) := by decide +kernel
theorem dX7_right_136 : decode cX7_right 136 = .ok (.iaload, 1) := by decide +kernel
theorem dX7_right_137 : decode cX7_right 137 = .ok (.goto 4, 3) := by decide +kernel
theorem dX7_right_140 : decode cX7_right 140 = .ok (.iconst 0, 1) := by decide +kernel
theorem dX7_right_141 : decode cX7_right 141 = .ok (.iadd, 1) := by decide +kernel
theorem dX7_right_142 : decode cX7_right 142 = .ok (.istore_n 2, 1) := by decide +kernel
theorem dX7_right_143 : decode cX7_right 143 = .ok (.iinc 3 1, 3) := by decide +kernel
theorem dX7_right_146 : decode cX7_right 146 = .ok (.goto (-28), 3) := by decide +kernel
theorem dX7_right_149 : decode cX7_right 149 = .ok (.iload_n 2, 1) := by decide +kernel
theorem dX7_right_150 : decode cX7_right 150 = .ok (.ireturn, 1) := by decide +kernel
theorem dX7_claim_0 : decode cX7_claim 0 = .ok (.aload_n 0, 1) := by decide +kernel
theorem dX7_claim_1 : decode cX7_claim 1 = .ok (.iload_n 1, 1) := by decide +kernel
theorem dX7_claim_2 : decode cX7_claim 2 = .ok (.invokevirtual 161, 3) := by decide +kernel
theorem dX7_claim_5 : decode cX7_claim 5 = .ok (.ifCond .ne 6, 3) := by decide +kernel
theorem dX7_claim_8 : decode cX7_claim 8 = .ok (.ldc 165, 2) := by decide +kernel
theorem dX7_claim_10 : decode cX7_claim 10 = .ok (.ireturn, 1) := by decide +kernel
theorem dX7_claim_11 : decode cX7_claim 11 = .ok (.iload_n 2, 1) := by decide +kernel
theorem dX7_claim_12 : decode cX7_claim 12 = .ok (.i2l, 1) := by decide +kernel
theorem dX7_claim_13 : decode cX7_claim 13 = .ok (.lconst 0, 1) := by decide +kernel
theorem dX7_claim_14 : decode cX7_claim 14 = .ok (.ldc2_w 218, 3) := by decide +kernel
theorem dX7_claim_17 : decode cX7_claim 17 = .ok (.invokestatic 59, 3) := by decide +kernel
theorem dX7_claim_20 : decode cX7_claim 20 = .ok (.ifCond .eq 15, 3) := by decide +kernel
theorem dX7_claim_23 : decode cX7_claim 23 = .ok (.iload_n 3, 1) := by decide +kernel
theorem dX7_claim_24 : decode cX7_claim 24 = .ok (.i2l, 1) := by decide +kernel
theorem dX7_claim_25 : decode cX7_claim 25 = .ok (.lconst 0, 1) := by decide +kernel
theorem dX7_claim_26 : decode cX7_claim 26 = .ok (.ldc2_w 254, 3) := by decide +kernel
theorem dX7_claim_29 : decode cX7_claim 29 = .ok (.invokestatic 59, 3) := by decide +kernel
theorem dX7_claim_32 : decode cX7_claim 32 = .ok (.ifCond .ne 6, 3) := by decide +kernel
theorem dX7_claim_35 : decode cX7_claim 35 = .ok (.ldc 63, 2) := by decide +kernel
theorem dX7_claim_37 : decode cX7_claim 37 = .ok (.ireturn, 1) := by decide +kernel
theorem dX7_claim_38 : decode cX7_claim 38 = .ok (.iconst 0, 1) := by decide +kernel
theorem dX7_claim_39 : decode cX7_claim 39 = .ok (.istore 4, 2) := by decide +kernel
theorem dX7_claim_41 : decode cX7_claim 41 = .ok (.iconst 0, 1) := by decide +kernel
theorem dX7_claim_42 : decode cX7_claim 42 = .ok (.istore 5, 2) := by decide +kernel
theorem dX7_claim_44 : decode cX7_claim 44 = .ok (.iconst 0, 1) := by decide +kernel
theorem dX7_claim_45 : decode cX7_claim 45 = .ok (.istore 6, 2) := by decide +kernel
theorem dX7_claim_47 : decode cX7_claim 47 = .ok (.iload 6, 2) := by decide +kernel
theorem dX7_claim_49 : decode cX7_claim 49 = .ok (.aload_n 0, 1) := by decide +kernel
theorem dX7_claim_50 : decode cX7_claim 50 = .ok (.getfield 7, 3) := by decide +kernel
theorem dX7_claim_53 : decode cX7_claim 53 = .ok (.sipush 1333, 3) := by decide +kernel
theorem dX7_claim_56 : decode cX7_claim 56 = .ok (.iaload, 1) := by decide +kernel
theorem dX7_claim_57 : decode cX7_claim 57 = .ok (.if_icmp .ge 122, 3) := by decide +kernel
theorem dX7_claim_60 : decode cX7_claim 60 = .ok (.aload_n 0, 1) := by decide +kernel
theorem dX7_claim_61 : decode cX7_claim 61 = .ok (.getfield 7, 3) := by decide +kernel
theorem dX7_claim_64 : decode cX7_claim 64 = .ok (.sipush 732, 3) := by decide +kernel
theorem dX7_claim_67 : decode cX7_claim 67 = .ok (.iload 6, 2) := by decide +kernel
theorem dX7_claim_69 : decode cX7_claim 69 = .ok (.iadd, 1) := by decide +kernel
theorem dX7_claim_70 : decode cX7_claim 70 = .ok (.iaload, 1) := by decide +kernel
theorem dX7_claim_71 : decode cX7_claim 71 = .ok (.istore 7, 2) := by decide +kernel
theorem dX7_claim_73 : decode cX7_claim 73 = .ok (.aload_n 0, 1) := by decide +kernel
theorem dX7_claim_74 : decode cX7_claim 74 = .ok (.getfield 7, 3) := by decide +kernel
theorem dX7_claim_77 : decode cX7_claim 77 = .ok (.sipush 432, 3) := by decide +kernel
theorem dX7_claim_80 : decode cX7_claim 80 = .ok (.iload 6, 2) := by decide +kernel
theorem dX7_claim_82 : decode cX7_claim 82 = .ok (.iadd, 1) := by decide +kernel
theorem dX7_claim_83 : decode cX7_claim 83 = .ok (.iaload, 1) := by decide +kernel
theorem dX7_claim_84 : decode cX7_claim 84 = .ok (.iload_n 3, 1) := by decide +kernel
theorem dX7_claim_85 : decode cX7_claim 85 = .ok (.if_icmp .ne 38, 3) := by decide +kernel
theorem dX7_claim_88 : decode cX7_claim 88 = .ok (.aload_n 0, 1) := by decide +kernel
theorem dX7_claim_89 : decode cX7_claim 89 = .ok (.getfield 7, 3) := by decide +kernel
theorem dX7_claim_92 : decode cX7_claim 92 = .ok (.iload 7, 2) := by decide +kernel
theorem dX7_claim_94 : decode cX7_claim 94 = .ok (.iaload, 1) := by decide +kernel
theorem dX7_claim_95 : decode cX7_claim 95 = .ok (.iload_n 1, 1) := by decide +kernel
theorem dX7_claim_96 : decode cX7_claim 96 = .ok (.if_icmp .ne 27, 3) := by decide +kernel
theorem dX7_claim_99 : decode cX7_claim 99 = .ok (.aload_n 0, 1) := by decide +kernel
theorem dX7_claim_100 : decode cX7_claim 100 = .ok (.getfield 23, 3) := by decide +kernel
theorem dX7_claim_103 : decode cX7_claim 103 = .ok (.aload_n 0, 1) := by decide +kernel
theorem dX7_claim_104 : decode cX7_claim 104 = .ok (.getfield 7, 3) := by decide +kernel
theorem dX7_claim_107 : decode cX7_claim 107 = .ok (.sipush 1032, 3) := by decide +kernel
theorem dX7_claim_110 : decode cX7_claim 110 = .ok (.iload 6, 2) := by decide +kernel
theorem dX7_claim_112 : decode cX7_claim 112 = .ok (.iadd, 1) := by decide +kernel
theorem dX7_claim_113 : decode cX7_claim 113 = .ok (.iaload, 1) := by decide +kernel
theorem dX7_claim_114 : decode cX7_claim 114 = .ok (.iaload, 1) := by decide +kernel
theorem dX7_claim_115 : decode cX7_claim 115 = .ok (.iconst 2, 1) := by decide +kernel
theorem dX7_claim_116 : decode cX7_claim 116 = .ok (.if_icmp .ne 7, 3) := by decide +kernel
theorem dX7_claim_119 : decode cX7_claim 119 = .ok (.iconst 1, 1) := by decide +kernel
theorem dX7_claim_120 : decode cX7_claim 120 = .ok (.goto 4, 3) := by decide +kernel
theorem dX7_claim_123 : decode cX7_claim 123 = .ok (.iconst 0, 1) := by decide +kernel
theorem dX7_claim_124 : decode cX7_claim 124 = .ok (.istore 8, 2) := by decide +kernel
theorem dX7_claim_126 : decode cX7_claim 126 = .ok (.iload 4, 2) := by decide +kernel
theorem dX7_claim_128 : decode cX7_claim 128 = .ok (.ifCond .ne 8, 3) := by decide +kernel
theorem dX7_claim_131 : decode cX7_claim 131 = .ok (.iload 8, 2) := by decide +kernel
theorem dX7_claim_133 : decode cX7_claim 133 = .ok (.ifCond .eq 7, 3) := by decide +kernel
theorem dX7_claim_136 : decode cX7_claim 136 = .ok (.iconst 1, 1) := by decide +kernel
theorem dX7_claim_137 : decode cX7_claim 137 = .ok (.goto 4, 3) := by decide +kernel
theorem dX7_claim_140 : decode cX7_claim 140 = .ok (.iconst 0, 1) := by decide +kernel
theorem dX7_claim_141 : decode cX7_claim 141 = .ok (.istore 4, 2) := by decide +kernel
theorem dX7_claim_143 : decode cX7_claim 143 = .ok (.iload 5, 2) := by decide +kernel
theorem dX7_claim_145 : decode cX7_claim 145 = .ok (.ifCond .ne 21, 3) := by decide +kernel
theorem dX7_claim_148 : decode cX7_claim 148 = .ok (.iload 8, 2) := by decide +kernel
theorem dX7_claim_150 : decode cX7_claim 150 = .ok (.ifCond .eq 20, 3) := by decide +kernel
theorem dX7_claim_153 : decode cX7_claim 153 = .ok (.aload_n 0, 1) := by decide +kernel
theorem dX7_claim_154 : decode cX7_claim 154 = .ok (.getfield 7, 3) := by decide +kernel
theorem dX7_claim_157 : decode cX7_claim 157 = .ok (.bipush 40, 2) := by decide +kernel
theorem dX7_claim_159 : decode cX7_claim 159 = .ok (.iload 7, 2) := by decide +kernel
theorem dX7_claim_161 : decode cX7_claim 161 = .ok (.iadd, 1) := by decide +kernel
theorem dX7_claim_162 : decode cX7_claim 162 = .ok (.iaload, 1) := by decide +kernel
theorem dX7_claim_163 : decode cX7_claim 163 = .ok (.ifCond .ne 7, 3) := by decide +kernel
theorem dX7_claim_166 : decode cX7_claim 166 = .ok (.iconst 1, 1) := by decide +kernel
theorem dX7_claim_167 : decode cX7_claim 167 = .ok (.goto 4, 3) := by decide +kernel
theorem dX7_claim_170 : decode cX7_claim 170 = .ok (.iconst 0, 1) := by decide +kernel
theorem dX7_claim_171 : decode cX7_claim 171 = .ok (.istore 5, 2) := by decide +kernel
theorem dX7_claim_173 : decode cX7_claim 173 = .ok (.iinc 6 1, 3) := by decide +kernel
theorem dX7_claim_176 : decode cX7_claim 176 = .ok (.goto (-129), 3) := by decide +kernel
theorem dX7_claim_179 : decode cX7_claim 179 = .ok (.iload 4, 2) := by decide +kernel
theorem dX7_claim_181 : decode cX7_claim 181 = .ok (.ifCond .eq 12, 3) := by decide +kernel
theorem dX7_claim_184 : decode cX7_claim 184 = .ok (.iload_n 2, 1) := by decide +kernel
theorem dX7_claim_185 : decode cX7_claim 185 = .ok (.ifCond .ne 12, 3) := by decide +kernel
theorem dX7_claim_188 : decode cX7_claim 188 = .ok (.iload 5, 2) := by decide +kernel
theorem dX7_claim_190 : decode cX7_claim 190 = .ok (.ifCond .ne 7, 3) := by decide +kernel
theorem dX7_claim_193 : decode cX7_claim 193 = .ok (.iconst 1, 1) := by decide +kernel
theorem dX7_claim_194 : decode cX7_claim 194 = .ok (.goto 4, 3) := by decide +kernel
theorem dX7_claim_197 : decode cX7_claim 197 = .ok (.iconst 0, 1) := by decide +kernel
theorem dX7_claim_198 : decode cX7_claim 198 = .ok (.invokestatic 141, 3) := by decide +kernel
theorem dX7_claim_201 : decode cX7_claim 201 = .ok (.ireturn, 1) := by decide +kernel
theorem dX7_whence_0 : decode cX7_whence 0 = .ok (.aload_n 0, 1) := by decide +kernel
theorem dX7_whence_1 : decode cX7_whence 1 = .ok (.iload_n 1, 1) := by decide +kernel
theorem dX7_whence_2 : decode cX7_whence 2 = .ok (.invokevirtual 161, 3) := by decide +kernel
theorem dX7_whence_5 : decode cX7_whence 5 = .ok (.ifCond .ne 6, 3) := by decide +kernel
theorem dX7_whence_8 : decode cX7_whence 8 = .ok (.ldc 165, 2) := by decide +kernel
theorem dX7_whence_10 : decode cX7_whence 10 = .ok (.ireturn, 1) := by decide +kernel
theorem dX7_whence_11 : decode cX7_whence 11 = .ok (.iload_n 2, 1) := by decide +kernel
theorem dX7_whence_12 : decode cX7_whence 12 = .ok (.i2l, 1) := by decide +kernel
theorem dX7_whence_13 : decode cX7_whence 13 = .ok (.lconst 0, 1) := by decide +kernel
theorem dX7_whence_14 : decode cX7_whence 14 = .ok (.ldc2_w 218, 3) := by decide +kernel
theorem dX7_whence_17 : decode cX7_whence 17 = .ok (.invokestatic 59, 3) := by decide +kernel
theorem dX7_whence_20 : decode cX7_whence 20 = .ok (.ifCond .ne 6, 3) := by decide +kernel
theorem dX7_whence_23 : decode cX7_whence 23 = .ok (.ldc 63, 2) := by decide +kernel
theorem dX7_whence_25 : decode cX7_whence 25 = .ok (.ireturn, 1) := by decide +kernel
theorem dX7_whence_26 : decode cX7_whence 26 = .ok (.iconst 0, 1) := by decide +kernel
theorem dX7_whence_27 : decode cX7_whence 27 = .ok (.istore_n 3, 1) := by decide +kernel
theorem dX7_whence_28 : decode cX7_whence 28 = .ok (.iload_n 3, 1) := by decide +kernel
theorem dX7_whence_29 : decode cX7_whence 29 = .ok (.aload_n 0, 1) := by decide +kernel
theorem dX7_whence_30 : decode cX7_whence 30 = .ok (.getfield 7, 3) := by decide +kernel
theorem dX7_whence_33 : decode cX7_whence 33 = .ok (.sipush 1332, 3) := by decide +kernel
theorem dX7_whence_36 : decode cX7_whence 36 = .ok (.iaload, 1) := by decide +kernel
theorem dX7_whence_37 : decode cX7_whence 37 = .ok (.if_icmp .ge 48, 3) := by decide +kernel
theorem dX7_whence_40 : decode cX7_whence 40 = .ok (.iload_n 2, 1) := by decide +kernel
theorem dX7_whence_41 : decode cX7_whence 41 = .ok (.ifCond .le 44, 3) := by decide +kernel
theorem dX7_whence_44 : decode cX7_whence 44 = .ok (.aload_n 0, 1) := by decide +kernel
theorem dX7_whence_45 : decode cX7_whence 45 = .ok (.getfield 7, 3) := by decide +kernel
theorem dX7_whence_48 : decode cX7_whence 48 = .ok (.iload_n 3, 1) := by decide +kernel
theorem dX7_whence_49 : decode cX7_whence 49 = .ok (.iaload, 1) := by decide +kernel
theorem dX7_whence_50 : decode cX7_whence 50 = .ok (.iload_n 1, 1) := by decide +kernel
theorem dX7_whence_51 : decode cX7_whence 51 = .ok (.if_icmp .ne 28, 3) := by decide +kernel
theorem dX7_whence_54 : decode cX7_whence 54 = .ok (.aload_n 0, 1) := by decide +kernel
theorem dX7_whence_55 : decode cX7_whence 55 = .ok (.getfield 7, 3) := by decide +kernel
theorem dX7_whence_58 : decode cX7_whence 58 = .ok (.bipush 40, 2) := by decide +kernel
theorem dX7_whence_60 : decode cX7_whence 60 = .ok (.iload_n 3, 1) := by decide +kernel
theorem dX7_whence_61 : decode cX7_whence 61 = .ok (.iadd, 1) := by decide +kernel
theorem dX7_whence_62 : decode cX7_whence 62 = .ok (.iaload, 1) := by decide +kernel
theorem dX7_whence_63 : decode cX7_whence 63 = .ok (.iload_n 2, 1) := by decide +kernel
theorem dX7_whence_64 : decode cX7_whence 64 = .ok (.if_icmp .ne 15, 3) := by decide +kernel
theorem dX7_whence_67 : decode cX7_whence 67 = .ok (.iconst 1, 1) := by decide +kernel
theorem dX7_whence_68 : decode cX7_whence 68 = .ok (.aload_n 0, 1) := by decide +kernel
theorem dX7_whence_69 : decode cX7_whence 69 = .ok (.getfield 7, 3) := by decide +kernel
theorem dX7_whence_72 : decode cX7_whence 72 = .ok (.bipush 120, 2) := by decide +kernel
theorem dX7_whence_74 : decode cX7_whence 74 = .ok (.iload_n 3, 1) := by decide +kernel
theorem dX7_whence_75 : decode cX7_whence 75 = .ok (.iadd, 1) := by decide +kernel
theorem dX7_whence_76 : decode cX7_whence 76 = .ok (.iaload, 1) := by decide +kernel
theorem dX7_whence_77 : decode cX7_whence 77 = .ok (.ishl, 1) := by decide +kernel
theorem dX7_whence_78 : decode cX7_whence 78 = .ok (.ireturn, 1) := by decide +kernel
theorem dX7_whence_79 : decode cX7_whence 79 = .ok (.iinc 3 1, 3) := by decide +kernel
theorem dX7_whence_82 : decode cX7_whence 82 = .ok (.goto (-54), 3) := by decide +kernel
theorem dX7_whence_85 : decode cX7_whence 85 = .ok (.iconst 0, 1) := by decide +kernel
theorem dX7_whence_86 : decode cX7_whence 86 = .ok (.ireturn, 1) := by decide +kernel
theorem dX7_span_0 : decode cX7_span 0 = .ok (.iload_n 1, 1) := by decide +kernel
theorem dX7_span_1 : decode cX7_span 1 = .ok (.i2l, 1) := by decide +kernel
theorem dX7_span_2 : decode cX7_span 2 = .ok (.lconst 1, 1) := by decide +kernel
theorem dX7_span_3 : decode cX7_span 3 = .ok (.ldc2_w 212, 3) := by decide +kernel
theorem dX7_span_6 : decode cX7_span 6 = .ok (.invokestatic 59, 3) := by decide +kernel
theorem dX7_span_9 : decode cX7_span 9 = .ok (.ifCond .eq 25, 3) := by decide +kernel
theorem dX7_span_12 : decode cX7_span 12 = .ok (.iload_n 2, 1) := by decide +kernel
theorem dX7_span_13 : decode cX7_span 13 = .ok (.i2l, 1) := by decide +kernel
theorem dX7_span_14 : decode cX7_span 14 = .ok (.lconst 1, 1) := by decide +kernel
theorem dX7_span_15 : decode cX7_span 15 = .ok (.ldc2_w 256, 3) := by decide +kernel
theorem dX7_span_18 : decode cX7_span 18 = .ok (.invokestatic 59, 3) := by decide +kernel
theorem dX7_span_21 : decode cX7_span 21 = .ok (.ifCond .eq 13, 3) := by decide +kernel
theorem dX7_span_24 : decode cX7_span 24 = .ok (.iload_n 3, 1) := by decide +kernel
theorem dX7_span_25 : decode cX7_span 25 = .ok (.i2l, 1) := by decide +kernel
theorem dX7_span_26 : decode cX7_span 26 = .ok (.lconst 0, 1) := by decide +kernel
theorem dX7_span_27 : decode cX7_span 27 = .ok (.lconst 1, 1) := by decide +kernel
theorem dX7_span_28 : decode cX7_span 28 = .ok (.invokestatic 59, 3) := by decide +kernel
theorem dX7_span_31 : decode cX7_span 31 = .ok (.ifCond .ne 6, 3) := by decide +kernel
theorem dX7_span_34 : decode cX7_span 34 = .ok (.ldc 63, 2) := by decide +kernel
theorem dX7_span_36 : decode cX7_span 36 = .ok (.ireturn, 1) := by decide +kernel
theorem dX7_span_37 : decode cX7_span 37 = .ok (.aload_n 0, 1) := by decide +kernel
theorem dX7_span_38 : decode cX7_span 38 = .ok (.getfield 7, 3) := by decide +kernel
theorem dX7_span_41 : decode cX7_span 41 = .ok (.sipush 1332, 3) := by decide +kernel
theorem dX7_span_44 : decode cX7_span 44 = .ok (.iaload, 1) := by decide +kernel
theorem dX7_span_45 : decode cX7_span 45 = .ok (.ifCond .ne 6, 3) := by decide +kernel
theorem dX7_span_48 : decode cX7_span 48 = .ok (.ldc 187, 2) := by decide +kernel
theorem dX7_span_50 : decode cX7_span 50 = .ok (.ireturn, 1) := by decide +kernel
theorem dX7_span_51 : decode cX7_span 51 = .ok (.bipush 99, 2) := by decide +kernel
theorem dX7_span_53 : decode cX7_span 53 = .ok (.istore 4, 2) := by decide +kernel
theorem dX7_span_55 : decode cX7_span 55 = .ok (.iconst (-1), 1) := by decide +kernel
theorem dX7_span_56 : decode cX7_span 56 = .ok (.istore 5, 2) := by decide +kernel
theorem dX7_span_58 : decode cX7_span 58 = .ok (.aload_n 0, 1) := by decide +kernel
theorem dX7_span_59 : decode cX7_span 59 = .ok (.getfield 7, 3) := by decide +kernel
theorem dX7_span_62 : decode cX7_span 62 = .ok (.sipush 1335, 3) := by decide +kernel
theorem dX7_span_65 : decode cX7_span 65 = .ok (.iaload, 1) := by decide +kernel
theorem dX7_span_66 : decode cX7_span 66 = .ok (.istore 6, 2) := by decide +kernel
theorem dX7_span_68 : decode cX7_span 68 = .ok (.iconst 0, 1) := by decide +kernel
theorem dX7_span_69 : decode cX7_span 69 = .ok (.istore 7, 2) := by decide +kernel
theorem dX7_span_71 : decode cX7_span 71 = .ok (.iload 7, 2) := by decide +kernel
theorem dX7_span_73 : decode cX7_span 73 = .ok (.iload_n 2, 1) := by decide +kernel
theorem dX7_span_74 : decode cX7_span 74 = .ok (.if_icmp .ge 86, 3) := by decide +kernel
theorem dX7_span_77 : decode cX7_span 77 = .ok (.aload_n 0, 1) := by decide +kernel
theorem dX7_span_78 : decode cX7_span 78 = .ok (.iconst 0, 1) := by decide +kernel
theorem dX7_span_79 : decode cX7_span 79 = .ok (.sipush 1500, 3) := by decide +kernel
theorem dX7_span_82 : decode cX7_span 82 = .ok (.invokevirtual 229, 3) := by decide +kernel
theorem dX7_span_85 : decode cX7_span 85 = .ok (.aload_n 0, 1) := by decide +kernel
theorem dX7_span_86 : decode cX7_span 86 = .ok (.getfield 7, 3) := by decide +kernel
theorem dX7_span_89 : decode cX7_span 89 = .ok (.sipush 2835, 3) := by decide +kernel
theorem dX7_span_92 : decode cX7_span 92 = .ok (.iload 6, 2) := by decide +kernel
theorem dX7_span_94 : decode cX7_span 94 = .ok (.iastore, 1) := by decide +kernel
theorem dX7_span_95 : decode cX7_span 95 = .ok (.aload_n 0, 1) := by decide +kernel
theorem dX7_span_96 : decode cX7_span 96 = .ok (.sipush 1500, 3) := by decide +kernel
theorem dX7_span_99 : decode cX7_span 99 = .ok (.iload_n 1, 1) := by decide +kernel
theorem dX7_span_100 : decode cX7_span 100 = .ok (.invokevirtual 214, 3) := by decide +kernel
theorem dX7_span_103 : decode cX7_span 103 = .ok (.aload_n 0, 1) := by decide +kernel
theorem dX7_span_104 : decode cX7_span 104 = .ok (.getfield 7, 3) := by decide +kernel
theorem dX7_span_107 : decode cX7_span 107 = .ok (.sipush 2835, 3) := by decide +kernel
theorem dX7_span_110 : decode cX7_span 110 = .ok (.iaload, 1) := by decide +kernel
theorem dX7_span_111 : decode cX7_span 111 = .ok (.istore 6, 2) := by decide +kernel
theorem dX7_span_113 : decode cX7_span 113 = .ok (.aload_n 0, 1) := by decide +kernel
theorem dX7_span_114 : decode cX7_span 114 = .ok (.sipush 1500, 3) := by decide +kernel
theorem dX7_span_117 : decode cX7_span 117 = .ok (.invokevirtual 145, 3) := by decide +kernel
theorem dX7_span_120 : decode cX7_span 120 = .ok (.istore 8, 2) := by decide +kernel
theorem dX7_span_122 : decode cX7_span 122 = .ok (.iload 8, 2) := by decide +kernel
theorem dX7_span_124 : decode cX7_span 124 = .ok (.iload 4, 2) := by decide +kernel
theorem dX7_span_126 : decode cX7_span 126 = .ok (.if_icmp .ge 8, 3) := by decide +kernel
theorem dX7_span_129 : decode cX7_span 129 = .ok (.iload 8, 2) := by decide +kernel
theorem dX7_span_131 : decode cX7_span 131 = .ok (.goto 5, 3) := by decide +kernel
theorem dX7_span_134 : decode cX7_span 134 = .ok (.iload 4, 2) := by decide +kernel
theorem dX7_span_136 : decode cX7_span 136 = .ok (.istore 4, 2) := by decide +kernel
theorem dX7_span_138 : decode cX7_span 138 = .ok (.iload 8, 2) := by decide +kernel
theorem dX7_span_140 : decode cX7_span 140 = .ok (.iload 5, 2) := by decide +kernel
theorem dX7_span_142 : decode cX7_span 142 = .ok (.if_icmp .le 8, 3) := by decide +kernel
theorem dX7_span_145 : decode cX7_span 145 = .ok (.iload 8, 2) := by decide +kernel
theorem dX7_span_147 : decode cX7_span 147 = .ok (.goto 5, 3) := by decide +kernel
theorem dX7_span_150 : decode cX7_span 150 = .ok (.iload 5, 2) := by decide +kernel
theorem dX7_span_152 : decode cX7_span 152 = .ok (.istore 5, 2) := by decide +kernel
theorem dX7_span_154 : decode cX7_span 154 = .ok (.iinc 7 1, 3) := by decide +kernel
theorem dX7_span_157 : decode cX7_span 157 = .ok (.goto (-86), 3) := by decide +kernel
theorem dX7_span_160 : decode cX7_span 160 = .ok (.iload_n 3, 1) := by decide +kernel
theorem dX7_span_161 : decode cX7_span 161 = .ok (.ifCond .ne 8, 3) := by decide +kernel
theorem dX7_span_164 : decode cX7_span 164 = .ok (.iload 4, 2) := by decide +kernel
theorem dX7_span_166 : decode cX7_span 166 = .ok (.goto 5, 3) := by decide +kernel
theorem dX7_span_169 : decode cX7_span 169 = .ok (.iload 5, 2) := by decide +kernel
theorem dX7_span_171 : decode cX7_span 171 = .ok (.ireturn, 1) := by decide +kernel
theorem dX7_note_0 : decode cX7_note 0 = .ok (.iload_n 1, 1) := by decide +kernel
theorem dX7_note_1 : decode cX7_note 1 = .ok (.i2l, 1) := by decide +kernel
theorem dX7_note_2 : decode cX7_note 2 = .ok (.lconst 0, 1) := by decide +kernel
theorem dX7_note_3 : decode cX7_note 3 = .ok (.ldc2_w 258, 3) := by decide +kernel
theorem dX7_note_6 : decode cX7_note 6 = .ok (.invokestatic 59, 3) := by decide +kernel
theorem dX7_note_9 : decode cX7_note 9 = .ok (.ifCond .ne 6, 3) := by decide +kernel
theorem dX7_note_12 : decode cX7_note 12 = .ok (.ldc 63, 2) := by decide +kernel
theorem dX7_note_14 : decode cX7_note 14 = .ok (.ireturn, 1) := by decide +kernel
theorem dX7_note_15 : decode cX7_note 15 = .ok (.aload_n 0, 1) := by decide +kernel
theorem dX7_note_16 : decode cX7_note 16 = .ok (.getfield 134, 3) := by decide +kernel
theorem dX7_note_19 : decode cX7_note 19 = .ok (.bipush 60, 2) := by decide +kernel
theorem dX7_note_21 : decode cX7_note 21 = .ok (.if_icmp .ne 6, 3) := by decide +kernel
theorem dX7_note_24 : decode cX7_note 24 = .ok (.ldc 67, 2) := by decide +kernel
theorem dX7_note_26 : decode cX7_note 26 = .ok (.ireturn, 1) := by decide +kernel
theorem dX7_note_27 : decode cX7_note 27 = .ok (.aload_n 0, 1) := by decide +kernel
theorem dX7_note_28 : decode cX7_note 28 = .ok (.getfield 54, 3) := by decide +kernel
theorem dX7_note_31 : decode cX7_note 31 = .ok (.aload_n 0, 1) := by decide +kernel
theorem dX7_note_32 : decode cX7_note 32 = .ok (.getfield 134, 3) := by decide +kernel
theorem dX7_note_35 : decode cX7_note 35 = .ok (.iload_n 1, 1) := by decide +kernel
theorem dX7_note_36 : decode cX7_note 36 = .ok (.iastore, 1) := by decide +kernel
theorem dX7_note_37 : decode cX7_note 37 = .ok (.aload_n 0, 1) := by decide +kernel
theorem dX7_note_38 : decode cX7_note 38 = .ok (.dup, 1) := by decide +kernel
theorem dX7_note_39 : decode cX7_note 39 = .ok (.getfield 134, 3) := by decide +kernel
theorem dX7_note_42 : decode cX7_note 42 = .ok (.iconst 1, 1) := by decide +kernel
theorem dX7_note_43 : decode cX7_note 43 = .ok (.iadd, 1) := by decide +kernel
theorem dX7_note_44 : decode cX7_note 44 = .ok (.putfield 134, 3) := by decide +kernel
theorem dX7_note_47 : decode cX7_note 47 = .ok (.aload_n 0, 1) := by decide +kernel
theorem dX7_note_48 : decode cX7_note 48 = .ok (.getfield 134, 3) := by decide +kernel
theorem dX7_note_51 : decode cX7_note 51 = .ok (.ireturn, 1) := by decide +kernel
theorem dX7_tear_0 : decode cX7_tear 0 = .ok (.aload_n 0, 1) := by decide +kernel
theorem dX7_tear_1 : decode cX7_tear 1 = .ok (.getfield 134, 3) := by decide +kernel
theorem dX7_tear_4 : decode cX7_tear 4 = .ok (.istore_n 1, 1) := by decide +kernel
theorem dX7_tear_5 : decode cX7_tear 5 = .ok (.aload_n 0, 1) := by decide +kernel
theorem dX7_tear_6 : decode cX7_tear 6 = .ok (.iconst 0, 1) := by decide +kernel
theorem dX7_tear_7 : decode cX7_tear 7 = .ok (.putfield 134, 3) := by decide +kernel
theorem dX7_tear_10 : decode cX7_tear 10 = .ok (.iload_n 1, 1) := by decide +kernel
theorem dX7_tear_11 : decode cX7_tear 11 = .ok (.ireturn, 1) := by decide +kernel
theorem dX7_judge_0 : decode cX7_judge 0 = .ok (.aload_n 0, 1) := by decide +kernel
theorem dX7_judge_1 : decode cX7_judge 1 = .ok (.iconst 0, 1) := by decide +kernel
theorem dX7_judge_2 : decode cX7_judge 2 = .ok (.sipush 1500, 3) := by decide +kernel
theorem dX7_judge_5 : decode cX7_judge 5 = .ok (.invokevirtual 229, 3) := by decide +kernel
theorem dX7_judge_8 : decode cX7_judge 8 = .ok (.iconst 0, 1) := by decide +kernel
theorem dX7_judge_9 : decode cX7_judge 9 = .ok (.istore_n 1, 1) := by decide +kernel
theorem dX7_judge_10 : decode cX7_judge 10 = .ok (.iload_n 1, 1) := by decide +kernel
theorem dX7_judge_11 : decode cX7_judge 11 = .ok (.aload_n 0, 1) := by decide +kernel
theorem dX7_judge_12 : decode cX7_judge 12 = .ok (.getfield 134, 3) := by decide +kernel
theorem dX7_judge_15 : decode cX7_judge 15 = .ok (.if_icmp .ge 34, 3) := by decide +kernel
theorem dX7_judge_18 : decode cX7_judge 18 = .ok (.aload_n 0, 1) := by decide +kernel
theorem dX7_judge_19 : decode cX7_judge 19 = .ok (.sipush 1500, 3) := by decide +kernel
theorem dX7_judge_22 : decode cX7_judge 22 = .ok (.invokevirtual 145, 3) := by decide +kernel
theorem dX7_judge_25 : decode cX7_judge 25 = .ok (.aload_n 0, 1) := by decide +kernel
theorem dX7_judge_26 : decode cX7_judge 26 = .ok (.getfield 54, 3) := by decide +kernel
theorem dX7_judge_29 : decode cX7_judge 29 = .ok (.iload_n 1, 1) := by decide +kernel
theorem dX7_judge_30 : decode cX7_judge 30 = .ok (.iaload, 1) := by decide +kernel
theorem dX7_judge_31 : decode cX7_judge 31 = .ok (.if_icmp .eq 5, 3) := by decide +kernel
theorem dX7_judge_34 : decode cX7_judge 34 = .ok (.iload_n 1, 1) := by decide +kernel
theorem dX7_judge_35 : decode cX7_judge 35 = .ok (.ireturn, 1) := by decide +kernel
theorem dX7_judge_36 : decode cX7_judge 36 = .ok (.aload_n 0, 1) := by decide +kernel
theorem dX7_judge_37 : decode cX7_judge 37 = .ok (.sipush 1500, 3) := by decide +kernel
theorem dX7_judge_40 : decode cX7_judge 40 = .ok (.invokevirtual 208, 3) := by decide +kernel
theorem dX7_judge_43 : decode cX7_judge 43 = .ok (.iinc 1 1, 3) := by decide +kernel
theorem dX7_judge_46 : decode cX7_judge 46 = .ok (.goto (-36), 3) := by decide +kernel
theorem dX7_judge_49 : decode cX7_judge 49 = .ok (.iconst (-1), 1) := by decide +kernel
theorem dX7_judge_50 : decode cX7_judge 50 = .ok (.ireturn, 1) := by decide +kernel
theorem dX7_seed_0 : decode cX7_seed 0 = .ok (.iload_n 1, 1) := by decide +kernel
theorem dX7_seed_1 : decode cX7_seed 1 = .ok (.ifCond .ge 6, 3) := by decide +kernel
theorem dX7_seed_4 : decode cX7_seed 4 = .ok (.ldc 63, 2) := by decide +kernel
theorem dX7_seed_6 : decode cX7_seed 6 = .ok (.ireturn, 1) := by decide +kernel
theorem dX7_seed_7 : decode cX7_seed 7 = .ok (.aload_n 0, 1) := by decide +kernel
theorem dX7_seed_8 : decode cX7_seed 8 = .ok (.getfield 7, 3) := by decide +kernel
theorem dX7_seed_11 : decode cX7_seed 11 = .ok (.sipush 1335, 3) := by decide +kernel
theorem dX7_seed_14 : decode cX7_seed 14 = .ok (.iaload, 1) := by decide +kernel
theorem dX7_seed_15 : decode cX7_seed 15 = .ok (.istore_n 2, 1) := by decide +kernel
theorem dX7_seed_16 : decode cX7_seed 16 = .ok (.aload_n 0, 1) := by decide +kernel
theorem dX7_seed_17 : decode cX7_seed 17 = .ok (.getfield 7, 3) := by decide +kernel
theorem dX7_seed_20 : decode cX7_seed 20 = .ok (.sipush 1335, 3) := by decide +kernel
theorem dX7_seed_23 : decode cX7_seed 23 = .ok (.iload_n 1, 1) := by decide +kernel
theorem dX7_seed_24 : decode cX7_seed 24 = .ok (.iastore, 1) := by decide +kernel
theorem dX7_seed_25 : decode cX7_seed 25 = .ok (.iload_n 2, 1) := by decide +kernel
theorem dX7_seed_26 : decode cX7_seed 26 = .ok (.ireturn, 1) := by decide +kernel
theorem dX7_keep_0 : decode cX7_keep 0 = .ok (.iload_n 1, 1) := by decide +kernel
theorem dX7_keep_1 : decode cX7_keep 1 = .ok (.i2l, 1) := by decide +kernel
theorem dX7_keep_2 : decode cX7_keep 2 = .ok (.lconst 0, 1) := by decide +kernel
theorem dX7_keep_3 : decode cX7_keep 3 = .ok (.lconst 1, 1) := by decide +kernel
theorem dX7_keep_4 : decode cX7_keep 4 = .ok (.invokestatic 59, 3) := by decide +kernel
theorem dX7_keep_7 : decode cX7_keep 7 = .ok (.ifCond .ne 6, 3) := by decide +kernel
theorem dX7_keep_10 : decode cX7_keep 10 = .ok (.ldc 165, 2) := by decide +kernel
theorem dX7_keep_12 : decode cX7_keep 12 = .ok (.ireturn, 1) := by decide +kernel
theorem dX7_keep_13 : decode cX7_keep 13 = .ok (.aload_n 0, 1) := by decide +kernel
theorem dX7_keep_14 : decode cX7_keep 14 = .ok (.iconst 0, 1) := by decide +kernel
theorem dX7_keep_15 : decode cX7_keep 15 = .ok (.sipush 3000, 3) := by decide +kernel
theorem dX7_keep_18 : decode cX7_keep 18 = .ok (.sipush 1500, 3) := by decide +kernel
theorem dX7_keep_21 : decode cX7_keep 21 = .ok (.iload_n 1, 1) := by decide +kernel
theorem dX7_keep_22 : decode cX7_keep 22 = .ok (.imul, 1) := by decide +kernel
theorem dX7_keep_23 : decode cX7_keep 23 = .ok (.iadd, 1) := by decide +kernel
theorem dX7_keep_24 : decode cX7_keep 24 = .ok (.invokevirtual 229, 3) := by decide +kernel
theorem dX7_keep_27 : decode cX7_keep 27 = .ok (.aload_n 0, 1) := by decide +kernel
theorem dX7_keep_28 : decode cX7_keep 28 = .ok (.getfield 13, 3) := by decide +kernel
theorem dX7_keep_31 : decode cX7_keep 31 = .ok (.iload_n 1, 1) := by decide +kernel
theorem dX7_keep_32 : decode cX7_keep 32 = .ok (.iconst 1, 1) := by decide +kernel
theorem dX7_keep_33 : decode cX7_keep 33 = .ok (.bastore, 1) := by decide +kernel
theorem dX7_keep_34 : decode cX7_keep 34 = .ok (.iconst 1, 1) := by decide +kernel
theorem dX7_keep_35 : decode cX7_keep 35 = .ok (.ireturn, 1) := by decide +kernel
theorem dX7_goBack_0 : decode cX7_goBack 0 = .ok (.iload_n 1, 1) := by decide +kernel
theorem dX7_goBack_1 : decode cX7_goBack 1 = .ok (.i2l, 1) := by decide +kernel
theorem dX7_goBack_2 : decode cX7_goBack 2 = .ok (.lconst 0, 1) := by decide +kernel
theorem dX7_goBack_3 : decode cX7_goBack 3 = .ok (.lconst 1, 1) := by decide +kernel
theorem dX7_goBack_4 : decode cX7_goBack 4 = .ok (.invokestatic 59, 3) := by decide +kernel
theorem dX7_goBack_7 : decode cX7_goBack 7 = .ok (.ifCond .ne 6, 3) := by decide +kernel
theorem dX7_goBack_10 : decode cX7_goBack 10 = .ok (.ldc 165, 2) := by decide +kernel
theorem dX7_goBack_12 : decode cX7_goBack 12 = .ok (.ireturn, 1) := by decide +kernel
theorem dX7_goBack_13 : decode cX7_goBack 13 = .ok (.aload_n 0, 1) := by decide +kernel
theorem dX7_goBack_14 : decode cX7_goBack 14 = .ok (.getfield 13, 3) := by decide +kernel
theorem dX7_goBack_17 : decode cX7_goBack 17 = .ok (.iload_n 1, 1) := by decide +kernel
theorem dX7_goBack_18 : decode cX7_goBack 18 = .ok (.baload, 1) := by decide +kernel
theorem dX7_goBack_19 : decode cX7_goBack 19 = .ok (.ifCond .ne 6, 3) := by decide +kernel
theorem dX7_goBack_22 : decode cX7_goBack 22 = .ok (.ldc 187, 2) := by decide +kernel
theorem dX7_goBack_24 : decode cX7_goBack 24 = .ok (.ireturn, 1) := by decide +kernel
theorem dX7_goBack_25 : decode cX7_goBack 25 = .ok (.aload_n 0, 1) := by decide +kernel
theorem dX7_goBack_26 : decode cX7_goBack 26 = .ok (.sipush 3000, 3) := by decide +kernel
theorem dX7_goBack_29 : decode cX7_goBack 29 = .ok (.sipush 1500, 3) := by decide +kernel
theorem dX7_goBack_32 : decode cX7_goBack 32 = .ok (.iload_n 1, 1) := by decide +kernel
theorem dX7_goBack_33 : decode cX7_goBack 33 = .ok (.imul, 1) := by decide +kernel
theorem dX7_goBack_34 : decode cX7_goBack 34 = .ok (.iadd, 1) := by decide +kernel
theorem dX7_goBack_35 : decode cX7_goBack 35 = .ok (.iconst 0, 1) := by decide +kernel
theorem dX7_goBack_36 : decode cX7_goBack 36 = .ok (.invokevirtual 229, 3) := by decide +kernel
theorem dX7_goBack_39 : decode cX7_goBack 39 = .ok (.iconst 1, 1) := by decide +kernel
theorem dX7_goBack_40 : decode cX7_goBack 40 = .ok (.ireturn, 1) := by decide +kernel
end
section
theorem dX0_clear_0 : decode cX0_clear 0 = .ok (.aload_n 0, 1) := by decide +kernel
theorem dX0_clear_1 : decode cX0_clear 1 = .ok (.iconst 0, 1) := by decide +kernel
theorem dX0_clear_2 : decode cX0_clear 2 = .ok (.putfield 7, 3) := by decide +kernel
theorem dX0_clear_5 : decode cX0_clear 5 = .ok (.aload_n 0, 1) := by decide +kernel
theorem dX0_clear_6 : decode cX0_clear 6 = .ok (.iconst 0, 1) := by decide +kernel
theorem dX0_clear_7 : decode cX0_clear 7 = .ok (.putfield 13, 3) := by decide +kernel
theorem dX0_clear_10 : decode cX0_clear 10 = .ok (.aload_n 0, 1) := by decide +kernel
theorem dX0_clear_11 : decode cX0_clear 11 = .ok (.iconst 0, 1) := by decide +kernel
theorem dX0_clear_12 : decode cX0_clear 12 = .ok (.putfield 16, 3) := by decide +kernel
theorem dX0_clear_15 : decode cX0_clear 15 = .ok (.return_, 1) := by decide +kernel
theorem dX0_addLine_0 : decode cX0_addLine 0 = .ok (.aload_n 0, 1) := by decide +kernel
theorem dX0_addLine_1 : decode cX0_addLine 1 = .ok (.dup, 1) := by decide +kernel
theorem dX0_addLine_2 : decode cX0_addLine 2 = .ok (.getfield 7, 3) := by decide +kernel
theorem dX0_addLine_5 : decode cX0_addLine 5 = .ok (.iload_n 2, 1) := by decide +kernel
theorem dX0_addLine_6 : decode cX0_addLine 6 = .ok (.ior, 1) := by decide +kernel
theorem dX0_addLine_7 : decode cX0_addLine 7 = .ok (.putfield 7, 3) := by decide +kernel
theorem dX0_addLine_10 : decode cX0_addLine 10 = .ok (.aload_n 0, 1) := by decide +kernel
theorem dX0_addLine_11 : decode cX0_addLine 11 = .ok (.dup, 1) := by decide +kernel
theorem dX0_addLine_12 : decode cX0_addLine 12 = .ok (.getfield 13, 3) := by decide +kernel
theorem dX0_addLine_15 : decode cX0_addLine 15 = .ok (.iload_n 3, 1) := by decide +kernel
theorem dX0_addLine_16 : decode cX0_addLine 16 = .ok (.iadd, 1) := by decide +kernel
theorem dX0_addLine_17 : decode cX0_addLine 17 = .ok (.putfield 13, 3) := by decide +kernel
theorem dX0_addLine_20 : decode cX0_addLine 20 = .ok (.aload_n 0, 1) := by decide +kernel
theorem dX0_addLine_21 : decode cX0_addLine 21 = .ok (.dup, 1) := by decide +kernel
theorem dX0_addLine_22 : decode cX0_addLine 22 = .ok (.getfield 16, 3) := by decide +kernel
theorem dX0_addLine_25 : decode cX0_addLine 25 = .ok (.iload 4, 2) := by decide +kernel
theorem dX0_addLine_27 : decode cX0_addLine 27 = .ok (.ifCond .eq 7, 3) := by decide +kernel
theorem dX0_addLine_30 : decode cX0_addLine 30 = .ok (.iconst 0, 1) := by decide +kernel
theorem dX0_addLine_31 : decode cX0_addLine 31 = .ok (.goto 6, 3) := by decide +kernel
theorem dX0_addLine_34 : decode cX0_addLine 34 = .ok (.iconst 1, 1) := by decide +kernel
theorem dX0_addLine_35 : decode cX0_addLine 35 = .ok (.iload_n 1, 1) := by decide +kernel
theorem dX0_addLine_36 : decode cX0_addLine 36 = .ok (.ishl, 1) := by decide +kernel
theorem dX0_addLine_37 : decode cX0_addLine 37 = .ok (.ior, 1) := by decide +kernel
theorem dX0_addLine_38 : decode cX0_addLine 38 = .ok (.putfield 16, 3) := by decide +kernel
theorem dX0_addLine_41 : decode cX0_addLine 41 = .ok (.return_, 1) := by decide +kernel
theorem dX1_clear_0 : decode cX1_clear 0 = .ok (.aload_n 0, 1) := by decide +kernel
theorem dX1_clear_1 : decode cX1_clear 1 = .ok (.iconst 0, 1) := by decide +kernel
theorem dX1_clear_2 : decode cX1_clear 2 = .ok (.putfield 24, 3) := by decide +kernel
theorem dX1_clear_5 : decode cX1_clear 5 = .ok (.aload_n 0, 1) := by decide +kernel
theorem dX1_clear_6 : decode cX1_clear 6 = .ok (.iconst 0, 1) := by decide +kernel
theorem dX1_clear_7 : decode cX1_clear 7 = .ok (.putfield 28, 3) := by decide +kernel
theorem dX1_clear_10 : decode cX1_clear 10 = .ok (.aload_n 0, 1) := by decide +kernel
theorem dX1_clear_11 : decode cX1_clear 11 = .ok (.bipush 10, 2) := by decide +kernel
theorem dX1_clear_13 : decode cX1_clear 13 = .ok (.putfield 31, 3) := by decide +kernel
theorem dX1_clear_16 : decode cX1_clear 16 = .ok (.aload_n 0, 1) := by decide +kernel
theorem dX1_clear_17 : decode cX1_clear 17 = .ok (.iconst 0, 1) := by decide +kernel
theorem dX1_clear_18 : decode cX1_clear 18 = .ok (.putfield 34, 3) := by decide +kernel
theorem dX1_clear_21 : decode cX1_clear 21 = .ok (.return_, 1) := by decide +kernel
theorem dX1_copyFrom_0 : decode cX1_copyFrom 0 = .ok (.aload_n 1, 1) := by decide +kernel
theorem dX1_copyFrom_1 : decode cX1_copyFrom 1 = .ok (.getfield 9, 3) := by decide +kernel
theorem dX1_copyFrom_4 : decode cX1_copyFrom 4 = .ok (.iconst 0, 1) := by decide +kernel
theorem dX1_copyFrom_5 : decode cX1_copyFrom 5 = .ok (.aload_n 0, 1) := by decide +kernel
theorem dX1_copyFrom_6 : decode cX1_copyFrom 6 = .ok (.getfield 9, 3) := by decide +kernel
theorem dX1_copyFrom_9 : decode cX1_copyFrom 9 = .ok (.iconst 0, 1) := by decide +kernel
theorem dX1_copyFrom_10 : decode cX1_copyFrom 10 = .ok (.bipush 16, 2) := by decide +kernel
theorem dX1_copyFrom_12 : decode cX1_copyFrom 12 = .ok (.invokestatic 38, 3) := by decide +kernel
theorem dX1_copyFrom_15 : decode cX1_copyFrom 15 = .ok (.aload_n 1, 1) := by decide +kernel
theorem dX1_copyFrom_16 : decode cX1_copyFrom 16 = .ok (.getfield 15, 3) := by decide +kernel
theorem dX1_copyFrom_19 : decode cX1_copyFrom 19 = .ok (.iconst 0, 1) := by decide +kernel
theorem dX1_copyFrom_20 : decode cX1_copyFrom 20 = .ok (.aload_n 0, 1) := by decide +kernel
theorem dX1_copyFrom_21 : decode cX1_copyFrom 21 = .ok (.getfield 15, 3) := by decide +kernel
theorem dX1_copyFrom_24 : decode cX1_copyFrom 24 = .ok (.iconst 0, 1) := by decide +kernel
theorem dX1_copyFrom_25 : decode cX1_copyFrom 25 = .ok (.bipush 16, 2) := by decide +kernel
theorem dX1_copyFrom_27 : decode cX1_copyFrom 27 = .ok (.invokestatic 38, 3) := by decide +kernel
theorem dX1_copyFrom_30 : decode cX1_copyFrom 30 = .ok (.aload_n 1, 1) := by decide +kernel
theorem dX1_copyFrom_31 : decode cX1_copyFrom 31 = .ok (.getfield 18, 3) := by decide +kernel
theorem dX1_copyFrom_34 : decode cX1_copyFrom 34 = .ok (.iconst 0, 1) := by decide +kernel
theorem dX1_copyFrom_35 : decode cX1_copyFrom 35 = .ok (.aload_n 0, 1) := by decide +kernel
theorem dX1_copyFrom_36 : decode cX1_copyFrom 36 = .ok (.getfield 18, 3) := by decide +kernel
theorem dX1_copyFrom_39 : decode cX1_copyFrom 39 = .ok (.iconst 0, 1) := by decide +kernel
theorem dX1_copyFrom_40 : decode cX1_copyFrom 40 = .ok (.bipush 8, 2) := by decide +kernel
theorem dX1_copyFrom_42 : decode cX1_copyFrom 42 = .ok (.invokestatic 38, 3) := by decide +kernel
theorem dX1_copyFrom_45 : decode cX1_copyFrom 45 = .ok (.aload_n 1, 1) := by decide +kernel
theorem dX1_copyFrom_46 : decode cX1_copyFrom 46 = .ok (.getfield 21, 3) := by decide +kernel
theorem dX1_copyFrom_49 : decode cX1_copyFrom 49 = .ok (.iconst 0, 1) := by decide +kernel
theorem dX1_copyFrom_50 : decode cX1_copyFrom 50 = .ok (.aload_n 0, 1) := by decide +kernel
theorem dX1_copyFrom_51 : decode cX1_copyFrom 51 = .ok (.getfield 21, 3) := by decide +kernel
theorem dX1_copyFrom_54 : decode cX1_copyFrom 54 = .ok (.iconst 0, 1) := by decide +kernel
theorem dX1_copyFrom_55 : decode cX1_copyFrom 55 = .ok (.bipush 8, 2) := by decide +kernel
theorem dX1_copyFrom_57 : decode cX1_copyFrom 57 = .ok (.invokestatic 38, 3) := by decide +kernel
theorem dX1_copyFrom_60 : decode cX1_copyFrom 60 = .ok (.aload_n 0, 1) := by decide +kernel
theorem dX1_copyFrom_61 : decode cX1_copyFrom 61 = .ok (.aload_n 1, 1) := by decide +kernel
theorem dX1_copyFrom_62 : decode cX1_copyFrom 62 = .ok (.getfield 24, 3) := by decide +kernel
theorem dX1_copyFrom_65 : decode cX1_copyFrom 65 = .ok (.putfield 24, 3) := by decide +kernel
theorem dX1_copyFrom_68 : decode cX1_copyFrom 68 = .ok (.aload_n 0, 1) := by decide +kernel
theorem dX1_copyFrom_69 : decode cX1_copyFrom 69 = .ok (.aload_n 1, 1) := by decide +kernel
theorem dX1_copyFrom_70 : decode cX1_copyFrom 70 = .ok (.getfield 28, 3) := by decide +kernel
theorem dX1_copyFrom_73 : decode cX1_copyFrom 73 = .ok (.putfield 28, 3) := by decide +kernel
theorem dX1_copyFrom_76 : decode cX1_copyFrom 76 = .ok (.aload_n 0, 1) := by decide +kernel
theorem dX1_copyFrom_77 : decode cX1_copyFrom 77 = .ok (.aload_n 1, 1) := by decide +kernel
theorem dX1_copyFrom_78 : decode cX1_copyFrom 78 = .ok (.getfield 31, 3) := by decide +kernel
theorem dX1_copyFrom_81 : decode cX1_copyFrom 81 = .ok (.putfield 31, 3) := by decide +kernel
theorem dX1_copyFrom_84 : decode cX1_copyFrom 84 = .ok (.aload_n 0, 1) := by decide +kernel
theorem dX1_copyFrom_85 : decode cX1_copyFrom 85 = .ok (.aload_n 1, 1) := by decide +kernel
theorem dX1_copyFrom_86 : decode cX1_copyFrom 86 = .ok (.getfield 34, 3) := by decide +kernel
theorem dX1_copyFrom_89 : decode cX1_copyFrom 89 = .ok (.putfield 34, 3) := by decide +kernel
theorem dX1_copyFrom_92 : decode cX1_copyFrom 92 = .ok (.return_, 1) := by decide +kernel
theorem dX1_addLine_0 : decode cX1_addLine 0 = .ok (.aload_n 0, 1) := by decide +kernel
theorem dX1_addLine_1 : decode cX1_addLine 1 = .ok (.getfield 24, 3) := by decide +kernel
theorem dX1_addLine_4 : decode cX1_addLine 4 = .ok (.bipush 16, 2) := by decide +kernel
theorem dX1_addLine_6 : decode cX1_addLine 6 = .ok (.if_icmp .ge 33, 3) := by decide +kernel
theorem dX1_addLine_9 : decode cX1_addLine 9 = .ok (.aload_n 0, 1) := by decide +kernel
theorem dX1_addLine_10 : decode cX1_addLine 10 = .ok (.getfield 9, 3) := by decide +kernel
theorem dX1_addLine_13 : decode cX1_addLine 13 = .ok (.aload_n 0, 1) := by decide +kernel
theorem dX1_addLine_14 : decode cX1_addLine 14 = .ok (.getfield 24, 3) := by decide +kernel
theorem dX1_addLine_17 : decode cX1_addLine 17 = .ok (.iload_n 1, 1) := by decide +kernel
theorem dX1_addLine_18 : decode cX1_addLine 18 = .ok (.iastore, 1) := by decide +kernel
theorem dX1_addLine_19 : decode cX1_addLine 19 = .ok (.aload_n 0, 1) := by decide +kernel
theorem dX1_addLine_20 : decode cX1_addLine 20 = .ok (.getfield 15, 3) := by decide +kernel
theorem dX1_addLine_23 : decode cX1_addLine 23 = .ok (.aload_n 0, 1) := by decide +kernel
theorem dX1_addLine_24 : decode cX1_addLine 24 = .ok (.getfield 24, 3) := by decide +kernel
theorem dX1_addLine_27 : decode cX1_addLine 27 = .ok (.iload_n 2, 1) := by decide +kernel
theorem dX1_addLine_28 : decode cX1_addLine 28 = .ok (.iastore, 1) := by decide +kernel
theorem dX1_addLine_29 : decode cX1_addLine 29 = .ok (.aload_n 0, 1) := by decide +kernel
theorem dX1_addLine_30 : decode cX1_addLine 30 = .ok (.dup, 1) := by decide +kernel
theorem dX1_addLine_31 : decode cX1_addLine 31 = .ok (.getfield 24, 3) := by decide +kernel
theorem dX1_addLine_34 : decode cX1_addLine 34 = .ok (.iconst 1, 1) := by decide +kernel
theorem dX1_addLine_35 : decode cX1_addLine 35 = .ok (.iadd, 1) := by decide +kernel
theorem dX1_addLine_36 : decode cX1_addLine 36 = .ok (.putfield 24, 3) := by decide +kernel
theorem dX1_addLine_39 : decode cX1_addLine 39 = .ok (.return_, 1) := by decide +kernel
theorem dX1_addReader_0 : decode cX1_addReader 0 = .ok (.aload_n 0, 1) := by decide +kernel
theorem dX1_addReader_1 : decode cX1_addReader 1 = .ok (.getfield 28, 3) := by decide +kernel
theorem dX1_addReader_4 : decode cX1_addReader 4 = .ok (.bipush 8, 2) := by decide +kernel
theorem dX1_addReader_6 : decode cX1_addReader 6 = .ok (.if_icmp .ge 33, 3) := by decide +kernel
theorem dX1_addReader_9 : decode cX1_addReader 9 = .ok (.aload_n 0, 1) := by decide +kernel
theorem dX1_addReader_10 : decode cX1_addReader 10 = .ok (.getfield 18, 3) := by decide +kernel
theorem dX1_addReader_13 : decode cX1_addReader 13 = .ok (.aload_n 0, 1) := by decide +kernel
theorem dX1_addReader_14 : decode cX1_addReader 14 = .ok (.getfield 28, 3) := by decide +kernel
theorem dX1_addReader_17 : decode cX1_addReader 17 = .ok (.iload_n 1, 1) := by decide +kernel
theorem dX1_addReader_18 : decode cX1_addReader 18 = .ok (.iastore, 1) := by decide +kernel
theorem dX1_addReader_19 : decode cX1_addReader 19 = .ok (.aload_n 0, 1) := by decide +kernel
theorem dX1_addReader_20 : decode cX1_addReader 20 = .ok (.getfield 21, 3) := by decide +kernel
theorem dX1_addReader_23 : decode cX1_addReader 23 = .ok (.aload_n 0, 1) := by decide +kernel
theorem dX1_addReader_24 : decode cX1_addReader 24 = .ok (.getfield 28, 3) := by decide +kernel
theorem dX1_addReader_27 : decode cX1_addReader 27 = .ok (.iload_n 2, 1) := by decide +kernel
theorem dX1_addReader_28 : decode cX1_addReader 28 = .ok (.iastore, 1) := by decide +kernel
theorem dX1_addReader_29 : decode cX1_addReader 29 = .ok (.aload_n 0, 1) := by decide +kernel
theorem dX1_addReader_30 : decode cX1_addReader 30 = .ok (.dup, 1) := by decide +kernel
theorem dX1_addReader_31 : decode cX1_addReader 31 = .ok (.getfield 28, 3) := by decide +kernel
theorem dX1_addReader_34 : decode cX1_addReader 34 = .ok (.iconst 1, 1) := by decide +kernel
theorem dX1_addReader_35 : decode cX1_addReader 35 = .ok (.iadd, 1) := by decide +kernel
theorem dX1_addReader_36 : decode cX1_addReader 36 = .ok (.putfield 28, 3) := by decide +kernel
theorem dX1_addReader_39 : decode cX1_addReader 39 = .ok (.return_, 1) := by decide +kernel
theorem dX1_tellError_0 : decode cX1_tellError 0 = .ok (.aload_n 0, 1) := by decide +kernel
theorem dX1_tellError_1 : decode cX1_tellError 1 = .ok (.iload_n 1, 1) := by decide +kernel
theorem dX1_tellError_2 : decode cX1_tellError 2 = .ok (.putfield 31, 3) := by decide +kernel
theorem dX1_tellError_5 : decode cX1_tellError 5 = .ok (.aload_n 0, 1) := by decide +kernel
theorem dX1_tellError_6 : decode cX1_tellError 6 = .ok (.iconst 1, 1) := by decide +kernel
theorem dX1_tellError_7 : decode cX1_tellError 7 = .ok (.putfield 34, 3) := by decide +kernel
theorem dX1_tellError_10 : decode cX1_tellError 10 = .ok (.return_, 1) := by decide +kernel
theorem dX1_hasLine_0 : decode cX1_hasLine 0 = .ok (.iload_n 1, 1) := by decide +kernel
theorem dX1_hasLine_1 : decode cX1_hasLine 1 = .ok (.ifCond .lt 15, 3) := by decide +kernel
theorem dX1_hasLine_4 : decode cX1_hasLine 4 = .ok (.iload_n 1, 1) := by decide +kernel
theorem dX1_hasLine_5 : decode cX1_hasLine 5 = .ok (.aload_n 0, 1) := by decide +kernel
theorem dX1_hasLine_6 : decode cX1_hasLine 6 = .ok (.getfield 24, 3) := by decide +kernel
theorem dX1_hasLine_9 : decode cX1_hasLine 9 = .ok (.if_icmp .ge 7, 3) := by decide +kernel
theorem dX1_hasLine_12 : decode cX1_hasLine 12 = .ok (.iconst 1, 1) := by decide +kernel
theorem dX1_hasLine_13 : decode cX1_hasLine 13 = .ok (.goto 4, 3) := by decide +kernel
theorem dX1_hasLine_16 : decode cX1_hasLine 16 = .ok (.iconst 0, 1) := by decide +kernel
theorem dX1_hasLine_17 : decode cX1_hasLine 17 = .ok (.ireturn, 1) := by decide +kernel
theorem dX1_hasReader_0 : decode cX1_hasReader 0 = .ok (.iload_n 1, 1) := by decide +kernel
theorem dX1_hasReader_1 : decode cX1_hasReader 1 = .ok (.ifCond .lt 15, 3) := by decide +kernel
theorem dX1_hasReader_4 : decode cX1_hasReader 4 = .ok (.iload_n 1, 1) := by decide +kernel
theorem dX1_hasReader_5 : decode cX1_hasReader 5 = .ok (.aload_n 0, 1) := by decide +kernel
theorem dX1_hasReader_6 : decode cX1_hasReader 6 = .ok (.getfield 28, 3) := by decide +kernel
theorem dX1_hasReader_9 : decode cX1_hasReader 9 = .ok (.if_icmp .ge 7, 3) := by decide +kernel
theorem dX1_hasReader_12 : decode cX1_hasReader 12 = .ok (.iconst 1, 1) := by decide +kernel
theorem dX1_hasReader_13 : decode cX1_hasReader 13 = .ok (.goto 4, 3) := by decide +kernel
theorem dX1_hasReader_16 : decode cX1_hasReader 16 = .ok (.iconst 0, 1) := by decide +kernel
theorem dX1_hasReader_17 : decode cX1_hasReader 17 = .ok (.ireturn, 1) := by decide +kernel
theorem dX1_readersOfKind_0 : decode cX1_readersOfKind 0 = .ok (.iconst 0, 1) := by decide +kernel
theorem dX1_readersOfKind_1 : decode cX1_readersOfKind 1 = .ok (.istore_n 2, 1) := by decide +kernel
theorem dX1_readersOfKind_2 : decode cX1_readersOfKind 2 = .ok (.iconst 0, 1) := by decide +kernel
theorem dX1_readersOfKind_3 : decode cX1_readersOfKind 3 = .ok (.istore_n 3, 1) := by decide +kernel
theorem dX1_readersOfKind_4 : decode cX1_readersOfKind 4 = .ok (.iload_n 3, 1) := by decide +kernel
theorem dX1_readersOfKind_5 : decode cX1_readersOfKind 5 = .ok (.aload_n 0, 1) := by decide +kernel
theorem dX1_readersOfKind_6 : decode cX1_readersOfKind 6 = .ok (.getfield 28, 3) := by decide +kernel
theorem dX1_readersOfKind_9 : decode cX1_readersOfKind 9 = .ok (.if_icmp .ge 25, 3) := by decide +kernel
theorem dX1_readersOfKind_12 : decode cX1_readersOfKind 12 = .ok (.aload_n 0, 1) := by decide +kernel
theorem dX1_readersOfKind_13 : decode cX1_readersOfKind 13 = .ok (.getfield 18, 3) := by decide +kernel
theorem dX1_readersOfKind_16 : decode cX1_readersOfKind 16 = .ok (.iload_n 3, 1) := by decide +kernel
theorem dX1_readersOfKind_17 : decode cX1_readersOfKind 17 = .ok (.iaload, 1) := by decide +kernel
theorem dX1_readersOfKind_18 : decode cX1_readersOfKind 18 = .ok (.iload_n 1, 1) := by decide +kernel
theorem dX1_readersOfKind_19 : decode cX1_readersOfKind 19 = .ok (.if_icmp .ne 9, 3) := by decide +kernel
theorem dX1_readersOfKind_22 : decode cX1_readersOfKind 22 = .ok (.iload_n 2, 1) := by decide +kernel
theorem dX1_readersOfKind_23 : decode cX1_readersOfKind 23 = .ok (.iconst 1, 1) := by decide +kernel
theorem dX1_readersOfKind_24 : decode cX1_readersOfKind 24 = .ok (.iload_n 3, 1) := by decide +kernel
theorem dX1_readersOfKind_25 : decode cX1_readersOfKind 25 = .ok (.ishl, 1) := by decide +kernel
theorem dX1_readersOfKind_26 : decode cX1_readersOfKind 26 = .ok (.ior, 1) := by decide +kernel
theorem dX1_readersOfKind_27 : decode cX1_readersOfKind 27 = .ok (.istore_n 2, 1) := by decide +kernel
theorem dX1_readersOfKind_28 : decode cX1_readersOfKind 28 = .ok (.iinc 3 1, 3) := by decide +kernel
theorem dX1_readersOfKind_31 : decode cX1_readersOfKind 31 = .ok (.goto (-27), 3) := by decide +kernel
theorem dX1_readersOfKind_34 : decode cX1_readersOfKind 34 = .ok (.iload_n 2, 1) := by decide +kernel
theorem dX1_readersOfKind_35 : decode cX1_readersOfKind 35 = .ok (.ireturn, 1) := by decide +kernel
theorem dX2_add_0 : decode cX2_add 0 = .ok (.aload_n 0, 1) := by decide +kernel
theorem dX2_add_1 : decode cX2_add 1 = .ok (.getfield 21, 3) := by decide +kernel
theorem dX2_add_4 : decode cX2_add 4 = .ok (.sipush 300, 3) := by decide +kernel
theorem dX2_add_7 : decode cX2_add 7 = .ok (.if_icmp .ge 43, 3) := by decide +kernel
theorem dX2_add_10 : decode cX2_add 10 = .ok (.aload_n 0, 1) := by decide +kernel
theorem dX2_add_11 : decode cX2_add 11 = .ok (.getfield 9, 3) := by decide +kernel
theorem dX2_add_14 : decode cX2_add 14 = .ok (.aload_n 0, 1) := by decide +kernel
theorem dX2_add_15 : decode cX2_add 15 = .ok (.getfield 21, 3) := by decide +kernel
theorem dX2_add_18 : decode cX2_add 18 = .ok (.iload_n 1, 1) := by decide +kernel
theorem dX2_add_19 : decode cX2_add 19 = .ok (.iastore, 1) := by decide +kernel
theorem dX2_add_20 : decode cX2_add 20 = .ok (.aload_n 0, 1) := by decide +kernel
theorem dX2_add_21 : decode cX2_add 21 = .ok (.getfield 15, 3) := by decide +kernel
theorem dX2_add_24 : decode cX2_add 24 = .ok (.aload_n 0, 1) := by decide +kernel
theorem dX2_add_25 : decode cX2_add 25 = .ok (.getfield 21, 3) := by decide +kernel
theorem dX2_add_28 : decode cX2_add 28 = .ok (.iload_n 2, 1) := by decide +kernel
theorem dX2_add_29 : decode cX2_add 29 = .ok (.iastore, 1) := by decide +kernel
theorem dX2_add_30 : decode cX2_add 30 = .ok (.aload_n 0, 1) := by decide +kernel
theorem dX2_add_31 : decode cX2_add 31 = .ok (.getfield 18, 3) := by decide +kernel
theorem dX2_add_34 : decode cX2_add 34 = .ok (.aload_n 0, 1) := by decide +kernel
theorem dX2_add_35 : decode cX2_add 35 = .ok (.getfield 21, 3) := by decide +kernel
theorem dX2_add_38 : decode cX2_add 38 = .ok (.iload_n 3, 1) := by decide +kernel
theorem dX2_add_39 : decode cX2_add 39 = .ok (.iastore, 1) := by decide +kernel
theorem dX2_add_40 : decode cX2_add 40 = .ok (.aload_n 0, 1) := by decide +kernel
theorem dX2_add_41 : decode cX2_add 41 = .ok (.dup, 1) := by decide +kernel
theorem dX2_add_42 : decode cX2_add 42 = .ok (.getfield 21, 3) := by decide +kernel
theorem dX2_add_45 : decode cX2_add 45 = .ok (.iconst 1, 1) := by decide +kernel
theorem dX2_add_46 : decode cX2_add 46 = .ok (.iadd, 1) := by decide +kernel
theorem dX2_add_47 : decode cX2_add 47 = .ok (.putfield 21, 3) := by decide +kernel
theorem dX2_add_50 : decode cX2_add 50 = .ok (.return_, 1) := by decide +kernel
theorem dX2_timesRead_0 : decode cX2_timesRead 0 = .ok (.iconst 0, 1) := by decide +kernel
theorem dX2_timesRead_1 : decode cX2_timesRead 1 = .ok (.istore_n 2, 1) := by decide +kernel
theorem dX2_timesRead_2 : decode cX2_timesRead 2 = .ok (.iconst 0, 1) := by decide +kernel
theorem dX2_timesRead_3 : decode cX2_timesRead 3 = .ok (.istore_n 3, 1) := by decide +kernel
theorem dX2_timesRead_4 : decode cX2_timesRead 4 = .ok (.iload_n 3, 1) := by decide +kernel
theorem dX2_timesRead_5 : decode cX2_timesRead 5 = .ok (.aload_n 0, 1) := by decide +kernel
theorem dX2_timesRead_6 : decode cX2_timesRead 6 = .ok (.getfield 21, 3) := by decide +kernel
theorem dX2_timesRead_9 : decode cX2_timesRead 9 = .ok (.if_icmp .ge 22, 3) := by decide +kernel
theorem dX2_timesRead_12 : decode cX2_timesRead 12 = .ok (.aload_n 0, 1) := by decide +kernel
theorem dX2_timesRead_13 : decode cX2_timesRead 13 = .ok (.getfield 15, 3) := by decide +kernel
theorem dX2_timesRead_16 : decode cX2_timesRead 16 = .ok (.iload_n 3, 1) := by decide +kernel
theorem dX2_timesRead_17 : decode cX2_timesRead 17 = .ok (.iaload, 1) := by decide +kernel
theorem dX2_timesRead_18 : decode cX2_timesRead 18 = .ok (.iload_n 1, 1) := by decide +kernel
theorem dX2_timesRead_19 : decode cX2_timesRead 19 = .ok (.if_icmp .ne 6, 3) := by decide +kernel
theorem dX2_timesRead_22 : decode cX2_timesRead 22 = .ok (.iinc 2 1, 3) := by decide +kernel
theorem dX2_timesRead_25 : decode cX2_timesRead 25 = .ok (.iinc 3 1, 3) := by decide +kernel
theorem dX2_timesRead_28 : decode cX2_timesRead 28 = .ok (.goto (-24), 3) := by decide +kernel
theorem dX2_timesRead_31 : decode cX2_timesRead 31 = .ok (.iload_n 2, 1) := by decide +kernel
theorem dX2_timesRead_32 : decode cX2_timesRead 32 = .ok (.ireturn, 1) := by decide +kernel
theorem dX2_copyFrom_0 : decode cX2_copyFrom 0 = .ok (.aload_n 1, 1) := by decide +kernel
theorem dX2_copyFrom_1 : decode cX2_copyFrom 1 = .ok (.getfield 9, 3) := by decide +kernel
theorem dX2_copyFrom_4 : decode cX2_copyFrom 4 = .ok (.iconst 0, 1) := by decide +kernel
theorem dX2_copyFrom_5 : decode cX2_copyFrom 5 = .ok (.aload_n 0, 1) := by decide +kernel
theorem dX2_copyFrom_6 : decode cX2_copyFrom 6 = .ok (.getfield 9, 3) := by decide +kernel
theorem dX2_copyFrom_9 : decode cX2_copyFrom 9 = .ok (.iconst 0, 1) := by decide +kernel
theorem dX2_copyFrom_10 : decode cX2_copyFrom 10 = .ok (.sipush 300, 3) := by decide +kernel
theorem dX2_copyFrom_13 : decode cX2_copyFrom 13 = .ok (.invokestatic 25, 3) := by decide +kernel
theorem dX2_copyFrom_16 : decode cX2_copyFrom 16 = .ok (.aload_n 1, 1) := by decide +kernel
theorem dX2_copyFrom_17 : decode cX2_copyFrom 17 = .ok (.getfield 15, 3) := by decide +kernel
theorem dX2_copyFrom_20 : decode cX2_copyFrom 20 = .ok (.iconst 0, 1) := by decide +kernel
theorem dX2_copyFrom_21 : decode cX2_copyFrom 21 = .ok (.aload_n 0, 1) := by decide +kernel
theorem dX2_copyFrom_22 : decode cX2_copyFrom 22 = .ok (.getfield 15, 3) := by decide +kernel
theorem dX2_copyFrom_25 : decode cX2_copyFrom 25 = .ok (.iconst 0, 1) := by decide +kernel
theorem dX2_copyFrom_26 : decode cX2_copyFrom 26 = .ok (.sipush 300, 3) := by decide +kernel
theorem dX2_copyFrom_29 : decode cX2_copyFrom 29 = .ok (.invokestatic 25, 3) := by decide +kernel
theorem dX2_copyFrom_32 : decode cX2_copyFrom 32 = .ok (.aload_n 1, 1) := by decide +kernel
theorem dX2_copyFrom_33 : decode cX2_copyFrom 33 = .ok (.getfield 18, 3) := by decide +kernel
theorem dX2_copyFrom_36 : decode cX2_copyFrom 36 = .ok (.iconst 0, 1) := by decide +kernel
theorem dX2_copyFrom_37 : decode cX2_copyFrom 37 = .ok (.aload_n 0, 1) := by decide +kernel
theorem dX2_copyFrom_38 : decode cX2_copyFrom 38 = .ok (.getfield 18, 3) := by decide +kernel
theorem dX2_copyFrom_41 : decode cX2_copyFrom 41 = .ok (.iconst 0, 1) := by decide +kernel
theorem dX2_copyFrom_42 : decode cX2_copyFrom 42 = .ok (.sipush 300, 3) := by decide +kernel
theorem dX2_copyFrom_45 : decode cX2_copyFrom 45 = .ok (.invokestatic 25, 3) := by decide +kernel
theorem dX2_copyFrom_48 : decode cX2_copyFrom 48 = .ok (.aload_n 0, 1) := by decide +kernel
theorem dX2_copyFrom_49 : decode cX2_copyFrom 49 = .ok (.aload_n 1, 1) := by decide +kernel
theorem dX2_copyFrom_50 : decode cX2_copyFrom 50 = .ok (.getfield 21, 3) := by decide +kernel
theorem dX2_copyFrom_53 : decode cX2_copyFrom 53 = .ok (.putfield 21, 3) := by decide +kernel
theorem dX2_copyFrom_56 : decode cX2_copyFrom 56 = .ok (.return_, 1) := by decide +kernel
theorem dX3_add_0 : decode cX3_add 0 = .ok (.aload_n 0, 1) := by decide +kernel
theorem dX3_add_1 : decode cX3_add 1 = .ok (.getfield 21, 3) := by decide +kernel
theorem dX3_add_4 : decode cX3_add 4 = .ok (.bipush 10, 2) := by decide +kernel
theorem dX3_add_6 : decode cX3_add 6 = .ok (.if_icmp .lt 6, 3) := by decide +kernel
theorem dX3_add_9 : decode cX3_add 9 = .ok (.ldc 25, 2) := by decide +kernel
theorem dX3_add_11 : decode cX3_add 11 = .ok (.ireturn, 1) := by decide +kernel
theorem dX3_add_12 : decode cX3_add 12 = .ok (.aload_n 0, 1) := by decide +kernel
theorem dX3_add_13 : decode cX3_add 13 = .ok (.getfield 9, 3) := by decide +kernel
theorem dX3_add_16 : decode cX3_add 16 = .ok (.aload_n 0, 1) := by decide +kernel
theorem dX3_add_17 : decode cX3_add 17 = .ok (.getfield 21, 3) := by decide +kernel
theorem dX3_add_20 : decode cX3_add 20 = .ok (.iload_n 1, 1) := by decide +kernel
theorem dX3_add_21 : decode cX3_add 21 = .ok (.iastore, 1) := by decide +kernel
theorem dX3_add_22 : decode cX3_add 22 = .ok (.aload_n 0, 1) := by decide +kernel
theorem dX3_add_23 : decode cX3_add 23 = .ok (.getfield 15, 3) := by decide +kernel
theorem dX3_add_26 : decode cX3_add 26 = .ok (.aload_n 0, 1) := by decide +kernel
theorem dX3_add_27 : decode cX3_add 27 = .ok (.getfield 21, 3) := by decide +kernel
theorem dX3_add_30 : decode cX3_add 30 = .ok (.iload_n 2, 1) := by decide +kernel
theorem dX3_add_31 : decode cX3_add 31 = .ok (.iastore, 1) := by decide +kernel
theorem dX3_add_32 : decode cX3_add 32 = .ok (.aload_n 0, 1) := by decide +kernel
theorem dX3_add_33 : decode cX3_add 33 = .ok (.getfield 18, 3) := by decide +kernel
theorem dX3_add_36 : decode cX3_add 36 = .ok (.aload_n 0, 1) := by decide +kernel
theorem dX3_add_37 : decode cX3_add 37 = .ok (.getfield 21, 3) := by decide +kernel
theorem dX3_add_40 : decode cX3_add 40 = .ok (.iload_n 3, 1) := by decide +kernel
theorem dX3_add_41 : decode cX3_add 41 = .ok (.iastore, 1) := by decide +kernel
theorem dX3_add_42 : decode cX3_add 42 = .ok (.aload_n 0, 1) := by decide +kernel
theorem dX3_add_43 : decode cX3_add 43 = .ok (.dup, 1) := by decide +kernel
theorem dX3_add_44 : decode cX3_add 44 = .ok (.getfield 21, 3) := by decide +kernel
theorem dX3_add_47 : decode cX3_add 47 = .ok (.iconst 1, 1) := by decide +kernel
theorem dX3_add_48 : decode cX3_add 48 = .ok (.iadd, 1) := by decide +kernel
theorem dX3_add_49 : decode cX3_add 49 = .ok (.putfield 21, 3) := by decide +kernel
theorem dX3_add_52 : decode cX3_add 52 = .ok (.aload_n 0, 1) := by decide +kernel
theorem dX3_add_53 : decode cX3_add 53 = .ok (.getfield 21, 3) := by decide +kernel
theorem dX3_add_56 : decode cX3_add 56 = .ok (.iconst 1, 1) := by decide +kernel
theorem dX3_add_57 : decode cX3_add 57 = .ok (.isub, 1) := by decide +kernel
theorem dX3_add_58 : decode cX3_add 58 = .ok (.ireturn, 1) := by decide +kernel
theorem dX3_forLine_0 : decode cX3_forLine 0 = .ok (.iconst 0, 1) := by decide +kernel
theorem dX3_forLine_1 : decode cX3_forLine 1 = .ok (.istore_n 2, 1) := by decide +kernel
theorem dX3_forLine_2 : decode cX3_forLine 2 = .ok (.iconst 0, 1) := by decide +kernel
theorem dX3_forLine_3 : decode cX3_forLine 3 = .ok (.istore_n 3, 1) := by decide +kernel
theorem dX3_forLine_4 : decode cX3_forLine 4 = .ok (.iload_n 3, 1) := by decide +kernel
theorem dX3_forLine_5 : decode cX3_forLine 5 = .ok (.aload_n 0, 1) := by decide +kernel
theorem dX3_forLine_6 : decode cX3_forLine 6 = .ok (.getfield 21, 3) := by decide +kernel
theorem dX3_forLine_9 : decode cX3_forLine 9 = .ok (.if_icmp .ge 25, 3) := by decide +kernel
theorem dX3_forLine_12 : decode cX3_forLine 12 = .ok (.aload_n 0, 1) := by decide +kernel
theorem dX3_forLine_13 : decode cX3_forLine 13 = .ok (.getfield 15, 3) := by decide +kernel
theorem dX3_forLine_16 : decode cX3_forLine 16 = .ok (.iload_n 3, 1) := by decide +kernel
theorem dX3_forLine_17 : decode cX3_forLine 17 = .ok (.iaload, 1) := by decide +kernel
theorem dX3_forLine_18 : decode cX3_forLine 18 = .ok (.iload_n 1, 1) := by decide +kernel
theorem dX3_forLine_19 : decode cX3_forLine 19 = .ok (.if_icmp .ne 9, 3) := by decide +kernel
theorem dX3_forLine_22 : decode cX3_forLine 22 = .ok (.iload_n 2, 1) := by decide +kernel
theorem dX3_forLine_23 : decode cX3_forLine 23 = .ok (.iconst 1, 1) := by decide +kernel
theorem dX3_forLine_24 : decode cX3_forLine 24 = .ok (.iload_n 3, 1) := by decide +kernel
theorem dX3_forLine_25 : decode cX3_forLine 25 = .ok (.ishl, 1) := by decide +kernel
theorem dX3_forLine_26 : decode cX3_forLine 26 = .ok (.ior, 1) := by decide +kernel
theorem dX3_forLine_27 : decode cX3_forLine 27 = .ok (.istore_n 2, 1) := by decide +kernel
theorem dX3_forLine_28 : decode cX3_forLine 28 = .ok (.iinc 3 1, 3) := by decide +kernel
theorem dX3_forLine_31 : decode cX3_forLine 31 = .ok (.goto (-27), 3) := by decide +kernel
theorem dX3_forLine_34 : decode cX3_forLine 34 = .ok (.iload_n 2, 1) := by decide +kernel
theorem dX3_forLine_35 : decode cX3_forLine 35 = .ok (.ireturn, 1) := by decide +kernel
theorem dX3_fulfil_0 : decode cX3_fulfil 0 = .ok (.iconst 0, 1) := by decide +kernel
theorem dX3_fulfil_1 : decode cX3_fulfil 1 = .ok (.istore_n 3, 1) := by decide +kernel
theorem dX3_fulfil_2 : decode cX3_fulfil 2 = .ok (.iconst 0, 1) := by decide +kernel
theorem dX3_fulfil_3 : decode cX3_fulfil 3 = .ok (.istore 4, 2) := by decide +kernel
theorem dX3_fulfil_5 : decode cX3_fulfil 5 = .ok (.iload 4, 2) := by decide +kernel
theorem dX3_fulfil_7 : decode cX3_fulfil 7 = .ok (.aload_n 0, 1) := by decide +kernel
theorem dX3_fulfil_8 : decode cX3_fulfil 8 = .ok (.getfield 21, 3) := by decide +kernel
theorem dX3_fulfil_11 : decode cX3_fulfil 11 = .ok (.if_icmp .ge 64, 3) := by decide +kernel
theorem dX3_fulfil_14 : decode cX3_fulfil 14 = .ok (.iload_n 1, 1) := by decide +kernel
theorem dX3_fulfil_15 : decode cX3_fulfil 15 = .ok (.iload 4, 2) := by decide +kernel
theorem dX3_fulfil_17 : decode cX3_fulfil 17 = .ok (.invokestatic 26, 3) := by decide +kernel
theorem dX3_fulfil_20 : decode cX3_fulfil 20 = .ok (.ifCond .eq 17, 3) := by decide +kernel
theorem dX3_fulfil_23 : decode cX3_fulfil 23 = .ok (.aload_n 2, 1) := by decide +kernel
theorem dX3_fulfil_24 : decode cX3_fulfil 24 = .ok (.aload_n 0, 1) := by decide +kernel
theorem dX3_fulfil_25 : decode cX3_fulfil 25 = .ok (.getfield 15, 3) := by decide +kernel
theorem dX3_fulfil_28 : decode cX3_fulfil 28 = .ok (.iload 4, 2) := by decide +kernel
theorem dX3_fulfil_30 : decode cX3_fulfil 30 = .ok (.iaload, 1) := by decide +kernel
theorem dX3_fulfil_31 : decode cX3_fulfil 31 = .ok (.invokevirtual 30, 3) := by decide +kernel
theorem dX3_fulfil_34 : decode cX3_fulfil 34 = .ok (.goto 4, 3) := by decide +kernel
theorem dX3_fulfil_37 : decode cX3_fulfil 37 = .ok (.iconst (-1), 1) := by decide +kernel
theorem dX3_fulfil_38 : decode cX3_fulfil 38 = .ok (.istore 5, 2) := by decide +kernel
theorem dX3_fulfil_40 : decode cX3_fulfil 40 = .ok (.iload 5, 2) := by decide +kernel
theorem dX3_fulfil_42 : decode cX3_fulfil 42 = .ok (.iconst (-1), 1) := by decide +kernel
theorem dX3_fulfil_43 : decode cX3_fulfil 43 = .ok (.if_icmp .eq 26, 3) := by decide +kernel
theorem dX3_fulfil_46 : decode cX3_fulfil 46 = .ok (.aload_n 2, 1) := by decide +kernel
theorem dX3_fulfil_47 : decode cX3_fulfil 47 = .ok (.aload_n 0, 1) := by decide +kernel
theorem dX3_fulfil_48 : decode cX3_fulfil 48 = .ok (.getfield 9, 3) := by decide +kernel
theorem dX3_fulfil_51 : decode cX3_fulfil 51 = .ok (.iload 4, 2) := by decide +kernel
theorem dX3_fulfil_53 : decode cX3_fulfil 53 = .ok (.iaload, 1) := by decide +kernel
theorem dX3_fulfil_54 : decode cX3_fulfil 54 = .ok (.iload 5, 2) := by decide +kernel
theorem dX3_fulfil_56 : decode cX3_fulfil 56 = .ok (.invokevirtual 36, 3) := by decide +kernel
theorem dX3_fulfil_59 : decode cX3_fulfil 59 = .ok (.iload_n 3, 1) := by decide +kernel
theorem dX3_fulfil_60 : decode cX3_fulfil 60 = .ok (.aload_n 0, 1) := by decide +kernel
theorem dX3_fulfil_61 : decode cX3_fulfil 61 = .ok (.getfield 18, 3) := by decide +kernel
theorem dX3_fulfil_64 : decode cX3_fulfil 64 = .ok (.iload 4, 2) := by decide +kernel
theorem dX3_fulfil_66 : decode cX3_fulfil 66 = .ok (.iaload, 1) := by decide +kernel
theorem dX3_fulfil_67 : decode cX3_fulfil 67 = .ok (.iadd, 1) := by decide +kernel
theorem dX3_fulfil_68 : decode cX3_fulfil 68 = .ok (.istore_n 3, 1) := by decide +kernel
theorem dX3_fulfil_69 : decode cX3_fulfil 69 = .ok (.iinc 4 1, 3) := by decide +kernel
theorem dX3_fulfil_72 : decode cX3_fulfil 72 = .ok (.goto (-67), 3) := by decide +kernel
theorem dX3_fulfil_75 : decode cX3_fulfil 75 = .ok (.iload_n 3, 1) := by decide +kernel
theorem dX3_fulfil_76 : decode cX3_fulfil 76 = .ok (.ireturn, 1) := by decide +kernel
theorem dX4_append_0 : decode cX4_append 0 = .ok (.aload_n 0, 1) := by decide +kernel
theorem dX4_append_1 : decode cX4_append 1 = .ok (.getfield 15, 3) := by decide +kernel
theorem dX4_append_4 : decode cX4_append 4 = .ok (.sipush 400, 3) := by decide +kernel
theorem dX4_append_7 : decode cX4_append 7 = .ok (.if_icmp .ge 23, 3) := by decide +kernel
theorem dX4_append_10 : decode cX4_append 10 = .ok (.aload_n 0, 1) := by decide +kernel
theorem dX4_append_11 : decode cX4_append 11 = .ok (.getfield 9, 3) := by decide +kernel
theorem dX4_append_14 : decode cX4_append 14 = .ok (.aload_n 0, 1) := by decide +kernel
theorem dX4_append_15 : decode cX4_append 15 = .ok (.getfield 15, 3) := by decide +kernel
theorem dX4_append_18 : decode cX4_append 18 = .ok (.iload_n 1, 1) := by decide +kernel
theorem dX4_append_19 : decode cX4_append 19 = .ok (.iastore, 1) := by decide +kernel
theorem dX4_append_20 : decode cX4_append 20 = .ok (.aload_n 0, 1) := by decide +kernel
theorem dX4_append_21 : decode cX4_append 21 = .ok (.dup, 1) := by decide +kernel
theorem dX4_append_22 : decode cX4_append 22 = .ok (.getfield 15, 3) := by decide +kernel
theorem dX4_append_25 : decode cX4_append 25 = .ok (.iconst 1, 1) := by decide +kernel
theorem dX4_append_26 : decode cX4_append 26 = .ok (.iadd, 1) := by decide +kernel
theorem dX4_append_27 : decode cX4_append 27 = .ok (.putfield 15, 3) := by decide +kernel
theorem dX4_append_30 : decode cX4_append 30 = .ok (.return_, 1) := by decide +kernel
theorem dX4_parseInto_0 : decode cX4_parseInto 0 = .ok (.aload_n 0, 1) := by decide +kernel
theorem dX4_parseInto_1 : decode cX4_parseInto 1 = .ok (.iconst 0, 1) := by decide +kernel
theorem dX4_parseInto_2 : decode cX4_parseInto 2 = .ok (.putfield 25, 3) := by decide +kernel
theorem dX4_parseInto_5 : decode cX4_parseInto 5 = .ok (.aload_n 0, 1) := by decide +kernel
theorem dX4_parseInto_6 : decode cX4_parseInto 6 = .ok (.iconst 0, 1) := by decide +kernel
theorem dX4_parseInto_7 : decode cX4_parseInto 7 = .ok (.putfield 19, 3) := by decide +kernel
theorem dX4_parseInto_10 : decode cX4_parseInto 10 = .ok (.aload_n 0, 1) := by decide +kernel
theorem dX4_parseInto_11 : decode cX4_parseInto 11 = .ok (.iconst (-1), 1) := by decide +kernel
theorem dX4_parseInto_12 : decode cX4_parseInto 12 = .ok (.putfield 22, 3) := by decide +kernel
theorem dX4_parseInto_15 : decode cX4_parseInto 15 = .ok (.aload_n 1, 1) := by decide +kernel
theorem dX4_parseInto_16 : decode cX4_parseInto 16 = .ok (.invokevirtual 28, 3) := by decide +kernel
theorem dX4_parseInto_19 : decode cX4_parseInto 19 = .ok (.aload_n 0, 1) := by decide +kernel
theorem dX4_parseInto_20 : decode cX4_parseInto 20 = .ok (.invokevirtual 33, 3) := by decide +kernel
theorem dX4_parseInto_23 : decode cX4_parseInto 23 = .ok (.iconst 0, 1) := by decide +kernel
theorem dX4_parseInto_24 : decode cX4_parseInto 24 = .ok (.istore_n 2, 1) := by decide +kernel
theorem dX4_parseInto_25 : decode cX4_parseInto 25 = .ok (.iload_n 2, 1) := by decide +kernel
theorem dX4_parseInto_26 : decode cX4_parseInto 26 = .ok (.sipush 400, 3) := by decide +kernel
theorem dX4_parseInto_29 : decode cX4_parseInto 29 = .ok (.if_icmp .ge 36, 3) := by decide +kernel
theorem dX4_parseInto_32 : decode cX4_parseInto 32 = .ok (.aload_n 0, 1) := by decide +kernel
theorem dX4_parseInto_33 : decode cX4_parseInto 33 = .ok (.getfield 19, 3) := by decide +kernel
theorem dX4_parseInto_36 : decode cX4_parseInto 36 = .ok (.ifCond .ne 29, 3) := by decide +kernel
theorem dX4_parseInto_39 : decode cX4_parseInto 39 = .ok (.aload_n 0, 1) := by decide +kernel
theorem dX4_parseInto_40 : decode cX4_parseInto 40 = .ok (.getfield 25, 3) := by decide +kernel
theorem dX4_parseInto_43 : decode cX4_parseInto 43 = .ok (.aload_n 0, 1) := by decide +kernel
theorem dX4_parseInto_44 : decode cX4_parseInto 44 = .ok (.getfield 15, 3) := by decide +kernel
theorem dX4_parseInto_47 : decode cX4_parseInto 47 = .ok (.if_icmp .ge 18, 3) := by decide +kernel
theorem dX4_parseInto_50 : decode cX4_parseInto 50 = .ok (.aload_n 0, 1) := by decide +kernel
theorem dX4_parseInto_51 : decode cX4_parseInto 51 = .ok (.aload_n 1, 1) := by decide +kernel
theorem dX4_parseInto_52 : decode cX4_parseInto 52 = .ok (.invokevirtual 36, 3) := by decide +kernel
theorem dX4_parseInto_55 : decode cX4_parseInto 55 = .ok (.aload_n 0, 1) := by decide +kernel
theorem dX4_parseInto_56 : decode cX4_parseInto 56 = .ok (.invokevirtual 33, 3) := by decide +kernel
theorem dX4_parseInto_59 : decode cX4_parseInto 59 = .ok (.iinc 2 1, 3) := by decide +kernel
theorem dX4_parseInto_62 : decode cX4_parseInto 62 = .ok (.goto (-37), 3) := by decide +kernel
theorem dX4_parseInto_65 : decode cX4_parseInto 65 = .ok (.return_, 1) := by decide +kernel
theorem dX4_parseClause_0 : decode cX4_parseClause 0 = .ok (.aload_n 0, 1) := by decide +kernel
theorem dX4_parseClause_1 : decode cX4_parseClause 1 = .ok (.getfield 25, 3) := by decide +kernel
theorem dX4_parseClause_4 : decode cX4_parseClause 4 = .ok (.istore_n 2, 1) := by decide +kernel
theorem dX4_parseClause_5 : decode cX4_parseClause 5 = .ok (.aload_n 0, 1) := by decide +kernel
theorem dX4_parseClause_6 : decode cX4_parseClause 6 = .ok (.invokevirtual 40, 3) := by decide +kernel
theorem dX4_parseClause_9 : decode cX4_parseClause 9 = .ok (.istore_n 3, 1) := by decide +kernel
theorem dX4_parseClause_10 : decode cX4_parseClause 10 = .ok (.aload_n 0, 1) := by decide +kernel
theorem dX4_parseClause_11 : decode cX4_parseClause 11 = .ok (.iload_n 3, 1) := by decide +kernel
theorem dX4_parseClause_12 : decode cX4_parseClause 12 = .ok (.putfield 25, 3) := by decide +kernel
theorem dX4_parseClause_15 : decode cX4_parseClause 15 = .ok (.aload_n 0, 1) := by decide +kernel
theorem dX4_parseClause_16 : decode cX4_parseClause 16 = .ok (.iload_n 2, 1) := by decide +kernel
theorem dX4_parseClause_17 : decode cX4_parseClause 17 = .ok (.iload_n 3, 1) := by decide +kernel
theorem dX4_parseClause_18 : decode cX4_parseClause 18 = .ok (.ldc 44, 2) := by decide +kernel
theorem dX4_parseClause_20 : decode cX4_parseClause 20 = .ok (.invokevirtual 46, 3) := by decide +kernel
theorem dX4_parseClause_23 : decode cX4_parseClause 23 = .ok (.ifCond .eq 12, 3) := by decide +kernel
theorem dX4_parseClause_26 : decode cX4_parseClause 26 = .ok (.aload_n 0, 1) := by decide +kernel
theorem dX4_parseClause_27 : decode cX4_parseClause 27 = .ok (.aload_n 1, 1) := by decide +kernel
theorem dX4_parseClause_28 : decode cX4_parseClause 28 = .ok (.iload_n 2, 1) := by decide +kernel
theorem dX4_parseClause_29 : decode cX4_parseClause 29 = .ok (.invokevirtual 50, 3) := by decide +kernel
theorem dX4_parseClause_32 : decode cX4_parseClause 32 = .ok (.goto 49, 3) := by decide +kernel
theorem dX4_parseClause_35 : decode cX4_parseClause 35 = .ok (.aload_n 0, 1) := by decide +kernel
theorem dX4_parseClause_36 : decode cX4_parseClause 36 = .ok (.iload_n 2, 1) := by decide +kernel
theorem dX4_parseClause_37 : decode cX4_parseClause 37 = .ok (.iload_n 3, 1) := by decide +kernel
theorem dX4_parseClause_38 : decode cX4_parseClause 38 = .ok (.ldc 54, 2) := by decide +kernel
theorem dX4_parseClause_40 : decode cX4_parseClause 40 = .ok (.invokevirtual 46, 3) := by decide +kernel
theorem dX4_parseClause_43 : decode cX4_parseClause 43 = .ok (.ifCond .eq 12, 3) := by decide +kernel
theorem dX4_parseClause_46 : decode cX4_parseClause 46 = .ok (.aload_n 0, 1) := by decide +kernel
theorem dX4_parseClause_47 : decode cX4_parseClause 47 = .ok (.aload_n 1, 1) := by decide +kernel
theorem dX4_parseClause_48 : decode cX4_parseClause 48 = .ok (.iload_n 2, 1) := by decide +kernel
theorem dX4_parseClause_49 : decode cX4_parseClause 49 = .ok (.invokevirtual 56, 3) := by decide +kernel
theorem dX4_parseClause_52 : decode cX4_parseClause 52 = .ok (.goto 29, 3) := by decide +kernel
theorem dX4_parseClause_55 : decode cX4_parseClause 55 = .ok (.aload_n 0, 1) := by decide +kernel
theorem dX4_parseClause_56 : decode cX4_parseClause 56 = .ok (.iload_n 2, 1) := by decide +kernel
theorem dX4_parseClause_57 : decode cX4_parseClause 57 = .ok (.iload_n 3, 1) := by decide +kernel
theorem dX4_parseClause_58 : decode cX4_parseClause 58 = .ok (.ldc 59, 2) := by decide +kernel
theorem dX4_parseClause_60 : decode cX4_parseClause 60 = .ok (.invokevirtual 46, 3) := by decide +kernel
theorem dX4_parseClause_63 : decode cX4_parseClause 63 = .ok (.ifCond .eq 12, 3) := by decide +kernel
theorem dX4_parseClause_66 : decode cX4_parseClause 66 = .ok (.aload_n 0, 1) := by decide +kernel
theorem dX4_parseClause_67 : decode cX4_parseClause 67 = .ok (.aload_n 1, 1) := by decide +kernel
theorem dX4_parseClause_68 : decode cX4_parseClause 68 = .ok (.iload_n 2, 1) := by decide +kernel
theorem dX4_parseClause_69 : decode cX4_parseClause 69 = .ok (.invokevirtual 61, 3) := by decide +kernel
theorem dX4_parseClause_72 : decode cX4_parseClause 72 = .ok (.goto 9, 3) := by decide +kernel
theorem dX4_parseClause_75 : decode cX4_parseClause 75 = .ok (.aload_n 0, 1) := by decide +kernel
theorem dX4_parseClause_76 : decode cX4_parseClause 76 = .ok (.iconst 1, 1) := by decide +kernel
theorem dX4_parseClause_77 : decode cX4_parseClause 77 = .ok (.iload_n 2, 1) := by decide +kernel
theorem dX4_parseClause_78 : decode cX4_parseClause 78 = .ok (.invokevirtual 64, 3) := by decide +kernel
theorem dX4_parseClause_81 : decode cX4_parseClause 81 = .ok (.return_, 1) := by decide +kernel
theorem dX4_parseLine_0 : decode cX4_parseLine 0 = .ok (.aload_n 1, 1) := by decide +kernel
theorem dX4_parseLine_1 : decode cX4_parseLine 1 = .ok (.getfield 68, 3) := by decide +kernel
theorem dX4_parseLine_4 : decode cX4_parseLine 4 = .ok (.bipush 16, 2) := by decide +kernel
theorem dX4_parseLine_6 : decode cX4_parseLine 6 = .ok (.if_icmp .lt 9, 3) := by decide +kernel
theorem dX4_parseLine_9 : decode cX4_parseLine 9 = .ok (.aload_n 0, 1) := by decide +kernel
theorem dX4_parseLine_10 : decode cX4_parseLine 10 = .ok (.iconst 3, 1) := by decide +kernel
theorem dX4_parseLine_11 : decode cX4_parseLine 11 = .ok (.iload_n 2, 1) := by decide +kernel
theorem dX4_parseLine_12 : decode cX4_parseLine 12 = .ok (.invokevirtual 64, 3) := by decide +kernel
theorem dX4_parseLine_15 : decode cX4_parseLine 15 = .ok (.aload_n 0, 1) := by decide +kernel
theorem dX4_parseLine_16 : decode cX4_parseLine 16 = .ok (.iconst 0, 1) := by decide +kernel
theorem dX4_parseLine_17 : decode cX4_parseLine 17 = .ok (.bipush 99, 2) := by decide +kernel
theorem dX4_parseLine_19 : decode cX4_parseLine 19 = .ok (.invokevirtual 71, 3) := by decide +kernel
theorem dX4_parseLine_22 : decode cX4_parseLine 22 = .ok (.istore_n 3, 1) := by decide +kernel
theorem dX4_parseLine_23 : decode cX4_parseLine 23 = .ok (.aload_n 0, 1) := by decide +kernel
theorem dX4_parseLine_24 : decode cX4_parseLine 24 = .ok (.iconst 0, 1) := by decide +kernel
theorem dX4_parseLine_25 : decode cX4_parseLine 25 = .ok (.bipush 9, 2) := by decide +kernel
theorem dX4_parseLine_27 : decode cX4_parseLine 27 = .ok (.invokevirtual 71, 3) := by decide +kernel
theorem dX4_parseLine_30 : decode cX4_parseLine 30 = .ok (.istore 4, 2) := by decide +kernel
theorem dX4_parseLine_32 : decode cX4_parseLine 32 = .ok (.aload_n 0, 1) := by decide +kernel
theorem dX4_parseLine_33 : decode cX4_parseLine 33 = .ok (.invokevirtual 75, 3) := by decide +kernel
theorem dX4_parseLine_36 : decode cX4_parseLine 36 = .ok (.aload_n 0, 1) := by decide +kernel
theorem dX4_parseLine_37 : decode cX4_parseLine 37 = .ok (.getfield 19, 3) := by decide +kernel
theorem dX4_parseLine_40 : decode cX4_parseLine 40 = .ok (.ifCond .ne 10, 3) := by decide +kernel
theorem dX4_parseLine_43 : decode cX4_parseLine 43 = .ok (.aload_n 1, 1) := by decide +kernel
theorem dX4_parseLine_44 : decode cX4_parseLine 44 = .ok (.iload_n 3, 1) := by decide +kernel
theorem dX4_parseLine_45 : decode cX4_parseLine 45 = .ok (.iload 4, 2) := by decide +kernel
theorem dX4_parseLine_47 : decode cX4_parseLine 47 = .ok (.invokevirtual 78, 3) := by decide +kernel
theorem dX4_parseLine_50 : decode cX4_parseLine 50 = .ok (.return_, 1) := by decide +kernel
theorem dX4_parseReader_0 : decode cX4_parseReader 0 = .ok (.aload_n 1, 1) := by decide +kernel
theorem dX4_parseReader_1 : decode cX4_parseReader 1 = .ok (.getfield 81, 3) := by decide +kernel
theorem dX4_parseReader_4 : decode cX4_parseReader 4 = .ok (.bipush 8, 2) := by decide +kernel
theorem dX4_parseReader_6 : decode cX4_parseReader 6 = .ok (.if_icmp .lt 9, 3) := by decide +kernel
theorem dX4_parseReader_9 : decode cX4_parseReader 9 = .ok (.aload_n 0, 1) := by decide +kernel
theorem dX4_parseReader_10 : decode cX4_parseReader 10 = .ok (.iconst 3, 1) := by decide +kernel
theorem dX4_parseReader_11 : decode cX4_parseReader 11 = .ok (.iload_n 2, 1) := by decide +kernel
theorem dX4_parseReader_12 : decode cX4_parseReader 12 = .ok (.invokevirtual 64, 3) := by decide +kernel
theorem dX4_parseReader_15 : decode cX4_parseReader 15 = .ok (.aload_n 0, 1) := by decide +kernel
theorem dX4_parseReader_16 : decode cX4_parseReader 16 = .ok (.invokevirtual 84, 3) := by decide +kernel
theorem dX4_parseReader_19 : decode cX4_parseReader 19 = .ok (.istore_n 3, 1) := by decide +kernel
theorem dX4_parseReader_20 : decode cX4_parseReader 20 = .ok (.aload_n 0, 1) := by decide +kernel
theorem dX4_parseReader_21 : decode cX4_parseReader 21 = .ok (.iconst 1, 1) := by decide +kernel
theorem dX4_parseReader_22 : decode cX4_parseReader 22 = .ok (.bipush 99, 2) := by decide +kernel
theorem dX4_parseReader_24 : decode cX4_parseReader 24 = .ok (.invokevirtual 71, 3) := by decide +kernel
theorem dX4_parseReader_27 : decode cX4_parseReader 27 = .ok (.istore 4, 2) := by decide +kernel
theorem dX4_parseReader_29 : decode cX4_parseReader 29 = .ok (.aload_n 0, 1) := by decide +kernel
theorem dX4_parseReader_30 : decode cX4_parseReader 30 = .ok (.invokevirtual 75, 3) := by decide +kernel
theorem dX4_parseReader_33 : decode cX4_parseReader 33 = .ok (.aload_n 0, 1) := by decide +kernel
theorem dX4_parseReader_34 : decode cX4_parseReader 34 = .ok (.getfield 19, 3) := by decide +kernel
theorem dX4_parseReader_37 : decode cX4_parseReader 37 = .ok (.ifCond .ne 10, 3) := by decide +kernel
theorem dX4_parseReader_40 : decode cX4_parseReader 40 = .ok (.aload_n 1, 1) := by decide +kernel
theorem dX4_parseReader_41 : decode cX4_parseReader 41 = .ok (.iload_n 3, 1) := by decide +kernel
theorem dX4_parseReader_42 : decode cX4_parseReader 42 = .ok (.iload 4, 2) := by decide +kernel
theorem dX4_parseReader_44 : decode cX4_parseReader 44 = .ok (.invokevirtual 87, 3) := by decide +kernel
theorem dX4_parseReader_47 : decode cX4_parseReader 47 = .ok (.return_, 1) := by decide +kernel
theorem dX4_parseError_0 : decode cX4_parseError 0 = .ok (.aload_n 1, 1) := by decide +kernel
theorem dX4_parseError_1 : decode cX4_parseError 1 = .ok (.getfield 90, 3) := by decide +kernel
theorem dX4_parseError_4 : decode cX4_parseError 4 = .ok (.ifCond .eq 9, 3) := by decide +kernel
theorem dX4_parseError_7 : decode cX4_parseError 7 = .ok (.aload_n 0, 1) := by decide +kernel
theorem dX4_parseError_8 : decode cX4_parseError 8 = .ok (.iconst 3, 1) := by decide +kernel
theorem dX4_parseError_9 : decode cX4_parseError 9 = .ok (.iload_n 2, 1) := by decide +kernel
theorem dX4_parseError_10 : decode cX4_parseError 10 = .ok (.invokevirtual 64, 3) := by decide +kernel
theorem dX4_parseError_13 : decode cX4_parseError 13 = .ok (.aload_n 0, 1) := by decide +kernel
theorem dX4_parseError_14 : decode cX4_parseError 14 = .ok (.iconst 0, 1) := by decide +kernel
theorem dX4_parseError_15 : decode cX4_parseError 15 = .ok (.bipush 100, 2) := by decide +kernel
theorem dX4_parseError_17 : decode cX4_parseError 17 = .ok (.invokevirtual 71, 3) := by decide +kernel
theorem dX4_parseError_20 : decode cX4_parseError 20 = .ok (.istore_n 3, 1) := by decide +kernel
theorem dX4_parseError_21 : decode cX4_parseError 21 = .ok (.aload_n 0, 1) := by decide +kernel
theorem dX4_parseError_22 : decode cX4_parseError 22 = .ok (.invokevirtual 75, 3) := by decide +kernel
theorem dX4_parseError_25 : decode cX4_parseError 25 = .ok (.aload_n 0, 1) := by decide +kernel
theorem dX4_parseError_26 : decode cX4_parseError 26 = .ok (.getfield 19, 3) := by decide +kernel
theorem dX4_parseError_29 : decode cX4_parseError 29 = .ok (.ifCond .ne 8, 3) := by decide +kernel
theorem dX4_parseError_32 : decode cX4_parseError 32 = .ok (.aload_n 1, 1) := by decide +kernel
theorem dX4_parseError_33 : decode cX4_parseError 33 = .ok (.iload_n 3, 1) := by decide +kernel
theorem dX4_parseError_34 : decode cX4_parseError 34 = .ok (.invokevirtual 94, 3) := by decide +kernel
theorem dX4_parseError_37 : decode cX4_parseError 37 = .ok (.return_, 1) := by decide +kernel
theorem dX4_takeKind_0 : decode cX4_takeKind 0 = .ok (.aload_n 0, 1) := by decide +kernel
theorem dX4_takeKind_1 : decode cX4_takeKind 1 = .ok (.invokevirtual 33, 3) := by decide +kernel
theorem dX4_takeKind_4 : decode cX4_takeKind 4 = .ok (.aload_n 0, 1) := by decide +kernel
theorem dX4_takeKind_5 : decode cX4_takeKind 5 = .ok (.getfield 25, 3) := by decide +kernel
theorem dX4_takeKind_8 : decode cX4_takeKind 8 = .ok (.istore_n 1, 1) := by decide +kernel
theorem dX4_takeKind_9 : decode cX4_takeKind 9 = .ok (.aload_n 0, 1) := by decide +kernel
theorem dX4_takeKind_10 : decode cX4_takeKind 10 = .ok (.invokevirtual 40, 3) := by decide +kernel
theorem dX4_takeKind_13 : decode cX4_takeKind 13 = .ok (.istore_n 2, 1) := by decide +kernel
theorem dX4_takeKind_14 : decode cX4_takeKind 14 = .ok (.aload_n 0, 1) := by decide +kernel
theorem dX4_takeKind_15 : decode cX4_takeKind 15 = .ok (.iload_n 2, 1) := by decide +kernel
theorem dX4_takeKind_16 : decode cX4_takeKind 16 = .ok (.putfield 25, 3) := by decide +kernel
theorem dX4_takeKind_19 : decode cX4_takeKind 19 = .ok (.aload_n 0, 1) := by decide +kernel
theorem dX4_takeKind_20 : decode cX4_takeKind 20 = .ok (.iload_n 1, 1) := by decide +kernel
theorem dX4_takeKind_21 : decode cX4_takeKind 21 = .ok (.iload_n 2, 1) := by decide +kernel
theorem dX4_takeKind_22 : decode cX4_takeKind 22 = .ok (.ldc 98, 2) := by decide +kernel
theorem dX4_takeKind_24 : decode cX4_takeKind 24 = .ok (.invokevirtual 46, 3) := by decide +kernel
theorem dX4_takeKind_27 : decode cX4_takeKind 27 = .ok (.ifCond .eq 5, 3) := by decide +kernel
theorem dX4_takeKind_30 : decode cX4_takeKind 30 = .ok (.iconst 0, 1) := by decide +kernel
theorem dX4_takeKind_31 : decode cX4_takeKind 31 = .ok (.ireturn, 1) := by decide +kernel
theorem dX4_takeKind_32 : decode cX4_takeKind 32 = .ok (.aload_n 0, 1) := by decide +kernel
theorem dX4_takeKind_33 : decode cX4_takeKind 33 = .ok (.iload_n 1, 1) := by decide +kernel
theorem dX4_takeKind_34 : decode cX4_takeKind 34 = .ok (.iload_n 2, 1) := by decide +kernel
theorem dX4_takeKind_35 : decode cX4_takeKind 35 = .ok (.ldc 100, 2) := by decide +kernel
theorem dX4_takeKind_37 : decode cX4_takeKind 37 = .ok (.invokevirtual 46, 3) := by decide +kernel
theorem dX4_takeKind_40 : decode cX4_takeKind 40 = .ok (.ifCond .eq 5, 3) := by decide +kernel
theorem dX4_takeKind_43 : decode cX4_takeKind 43 = .ok (.iconst 1, 1) := by decide +kernel
theorem dX4_takeKind_44 : decode cX4_takeKind 44 = .ok (.ireturn, 1) := by decide +kernel
theorem dX4_takeKind_45 : decode cX4_takeKind 45 = .ok (.aload_n 0, 1) := by decide +kernel
theorem dX4_takeKind_46 : decode cX4_takeKind 46 = .ok (.iload_n 1, 1) := by decide +kernel
theorem dX4_takeKind_47 : decode cX4_takeKind 47 = .ok (.iload_n 2, 1) := by decide +kernel
theorem dX4_takeKind_48 : decode cX4_takeKind 48 = .ok (.ldc 102, 2) := by decide +kernel
theorem dX4_takeKind_50 : decode cX4_takeKind 50 = .ok (.invokevirtual 46, 3) := by decide +kernel
theorem dX4_takeKind_53 : decode cX4_takeKind 53 = .ok (.ifCond .eq 5, 3) := by decide +kernel
theorem dX4_takeKind_56 : decode cX4_takeKind 56 = .ok (.iconst 2, 1) := by decide +kernel
theorem dX4_takeKind_57 : decode cX4_takeKind 57 = .ok (.ireturn, 1) := by decide +kernel
theorem dX4_takeKind_58 : decode cX4_takeKind 58 = .ok (.aload_n 0, 1) := by decide +kernel
theorem dX4_takeKind_59 : decode cX4_takeKind 59 = .ok (.iload_n 1, 1) := by decide +kernel
theorem dX4_takeKind_60 : decode cX4_takeKind 60 = .ok (.iload_n 2, 1) := by decide +kernel
theorem dX4_takeKind_61 : decode cX4_takeKind 61 = .ok (.ldc 104, 2) := by decide +kernel
theorem dX4_takeKind_63 : decode cX4_takeKind 63 = .ok (.invokevirtual 46, 3) := by decide +kernel
theorem dX4_takeKind_66 : decode cX4_takeKind 66 = .ok (.ifCond .eq 5, 3) := by decide +kernel
theorem dX4_takeKind_69 : decode cX4_takeKind 69 = .ok (.iconst 3, 1) := by decide +kernel
theorem dX4_takeKind_70 : decode cX4_takeKind 70 = .ok (.ireturn, 1) := by decide +kernel
theorem dX4_takeKind_71 : decode cX4_takeKind 71 = .ok (.aload_n 0, 1) := by decide +kernel
theorem dX4_takeKind_72 : decode cX4_takeKind 72 = .ok (.iload_n 1, 1) := by decide +kernel
theorem dX4_takeKind_73 : decode cX4_takeKind 73 = .ok (.iload_n 2, 1) := by decide +kernel
theorem dX4_takeKind_74 : decode cX4_takeKind 74 = .ok (.ldc 106, 2) := by decide +kernel
theorem dX4_takeKind_76 : decode cX4_takeKind 76 = .ok (.invokevirtual 46, 3) := by decide +kernel
theorem dX4_takeKind_79 : decode cX4_takeKind 79 = .ok (.ifCond .eq 5, 3) := by decide +kernel
theorem dX4_takeKind_82 : decode cX4_takeKind 82 = .ok (.iconst 4, 1) := by decide +kernel
theorem dX4_takeKind_83 : decode cX4_takeKind 83 = .ok (.ireturn, 1) := by decide +kernel
theorem dX4_takeKind_84 : decode cX4_takeKind 84 = .ok (.aload_n 0, 1) := by decide +kernel
theorem dX4_takeKind_85 : decode cX4_takeKind 85 = .ok (.iconst 1, 1) := by decide +kernel
theorem dX4_takeKind_86 : decode cX4_takeKind 86 = .ok (.iload_n 1, 1) := by decide +kernel
theorem dX4_takeKind_87 : decode cX4_takeKind 87 = .ok (.invokevirtual 64, 3) := by decide +kernel
theorem dX4_takeKind_90 : decode cX4_takeKind 90 = .ok (.iconst (-1), 1) := by decide +kernel
theorem dX4_takeKind_91 : decode cX4_takeKind 91 = .ok (.ireturn, 1) := by decide +kernel
theorem dX4_takeNumber_0 : decode cX4_takeNumber 0 = .ok (.aload_n 0, 1) := by decide +kernel
theorem dX4_takeNumber_1 : decode cX4_takeNumber 1 = .ok (.invokevirtual 33, 3) := by decide +kernel
theorem dX4_takeNumber_4 : decode cX4_takeNumber 4 = .ok (.aload_n 0, 1) := by decide +kernel
theorem dX4_takeNumber_5 : decode cX4_takeNumber 5 = .ok (.getfield 25, 3) := by decide +kernel
theorem dX4_takeNumber_8 : decode cX4_takeNumber 8 = .ok (.istore_n 3, 1) := by decide +kernel
theorem dX4_takeNumber_9 : decode cX4_takeNumber 9 = .ok (.iconst 0, 1) := by decide +kernel
theorem dX4_takeNumber_10 : decode cX4_takeNumber 10 = .ok (.istore 4, 2) := by decide +kernel
theorem dX4_takeNumber_12 : decode cX4_takeNumber 12 = .ok (.aload_n 0, 1) := by decide +kernel
theorem dX4_takeNumber_13 : decode cX4_takeNumber 13 = .ok (.getfield 25, 3) := by decide +kernel
theorem dX4_takeNumber_16 : decode cX4_takeNumber 16 = .ok (.aload_n 0, 1) := by decide +kernel
theorem dX4_takeNumber_17 : decode cX4_takeNumber 17 = .ok (.getfield 15, 3) := by decide +kernel
theorem dX4_takeNumber_20 : decode cX4_takeNumber 20 = .ok (.if_icmp .ge 66, 3) := by decide +kernel
theorem dX4_takeNumber_23 : decode cX4_takeNumber 23 = .ok (.aload_n 0, 1) := by decide +kernel
theorem dX4_takeNumber_24 : decode cX4_takeNumber 24 = .ok (.getfield 9, 3) := by decide +kernel
theorem dX4_takeNumber_27 : decode cX4_takeNumber 27 = .ok (.aload_n 0, 1) := by decide +kernel
theorem dX4_takeNumber_28 : decode cX4_takeNumber 28 = .ok (.getfield 25, 3) := by decide +kernel
theorem dX4_takeNumber_31 : decode cX4_takeNumber 31 = .ok (.iaload, 1) := by decide +kernel
theorem dX4_takeNumber_32 : decode cX4_takeNumber 32 = .ok (.invokestatic 108, 3) := by decide +kernel
theorem dX4_takeNumber_35 : decode cX4_takeNumber 35 = .ok (.ifCond .eq 51, 3) := by decide +kernel
theorem dX4_takeNumber_38 : decode cX4_takeNumber 38 = .ok (.aload_n 0, 1) := by decide +kernel
theorem dX4_takeNumber_39 : decode cX4_takeNumber 39 = .ok (.getfield 25, 3) := by decide +kernel
theorem dX4_takeNumber_42 : decode cX4_takeNumber 42 = .ok (.iload_n 3, 1) := by decide +kernel
theorem dX4_takeNumber_43 : decode cX4_takeNumber 43 = .ok (.isub, 1) := by decide +kernel
theorem dX4_takeNumber_44 : decode cX4_takeNumber 44 = .ok (.iconst 3, 1) := by decide +kernel
theorem dX4_takeNumber_45 : decode cX4_takeNumber 45 = .ok (.if_icmp .ge 24, 3) := by decide +kernel
theorem dX4_takeNumber_48 : decode cX4_takeNumber 48 = .ok (.iload 4, 2) := by decide +kernel
theorem dX4_takeNumber_50 : decode cX4_takeNumber 50 = .ok (.bipush 10, 2) := by decide +kernel
theorem dX4_takeNumber_52 : decode cX4_takeNumber 52 = .ok (.imul, 1) := by decide +kernel
theorem dX4_takeNumber_53 : decode cX4_takeNumber 53 = .ok (.aload_n 0, 1) := by decide +kernel
theorem dX4_takeNumber_54 : decode cX4_takeNumber 54 = .ok (.getfield 9, 3) := by decide +kernel
theorem dX4_takeNumber_57 : decode cX4_takeNumber 57 = .ok (.aload_n 0, 1) := by decide +kernel
theorem dX4_takeNumber_58 : decode cX4_takeNumber 58 = .ok (.getfield 25, 3) := by decide +kernel
theorem dX4_takeNumber_61 : decode cX4_takeNumber 61 = .ok (.iaload, 1) := by decide +kernel
theorem dX4_takeNumber_62 : decode cX4_takeNumber 62 = .ok (.iadd, 1) := by decide +kernel
theorem dX4_takeNumber_63 : decode cX4_takeNumber 63 = .ok (.bipush 48, 2) := by decide +kernel
theorem dX4_takeNumber_65 : decode cX4_takeNumber 65 = .ok (.isub, 1) := by decide +kernel
theorem dX4_takeNumber_66 : decode cX4_takeNumber 66 = .ok (.goto 5, 3) := by decide +kernel
theorem dX4_takeNumber_69 : decode cX4_takeNumber 69 = .ok (.iload 4, 2) := by decide +kernel
theorem dX4_takeNumber_71 : decode cX4_takeNumber 71 = .ok (.istore 4, 2) := by decide +kernel
theorem dX4_takeNumber_73 : decode cX4_takeNumber 73 = .ok (.aload_n 0, 1) := by decide +kernel
theorem dX4_takeNumber_74 : decode cX4_takeNumber 74 = .ok (.dup, 1) := by decide +kernel
theorem dX4_takeNumber_75 : decode cX4_takeNumber 75 = .ok (.getfield 25, 3) := by decide +kernel
theorem dX4_takeNumber_78 : decode cX4_takeNumber 78 = .ok (.iconst 1, 1) := by decide +kernel
theorem dX4_takeNumber_79 : decode cX4_takeNumber 79 = .ok (.iadd, 1) := by decide +kernel
theorem dX4_takeNumber_80 : decode cX4_takeNumber 80 = .ok (.putfield 25, 3) := by decide +kernel
theorem dX4_takeNumber_83 : decode cX4_takeNumber 83 = .ok (.goto (-71), 3) := by decide +kernel
theorem dX4_takeNumber_86 : decode cX4_takeNumber 86 = .ok (.aload_n 0, 1) := by decide +kernel
theorem dX4_takeNumber_87 : decode cX4_takeNumber 87 = .ok (.getfield 25, 3) := by decide +kernel
theorem dX4_takeNumber_90 : decode cX4_takeNumber 90 = .ok (.iload_n 3, 1) := by decide +kernel
theorem dX4_takeNumber_91 : decode cX4_takeNumber 91 = .ok (.if_icmp .ne 12, 3) := by decide +kernel
theorem dX4_takeNumber_94 : decode cX4_takeNumber 94 = .ok (.aload_n 0, 1) := by decide +kernel
theorem dX4_takeNumber_95 : decode cX4_takeNumber 95 = .ok (.iconst 1, 1) := by decide +kernel
theorem dX4_takeNumber_96 : decode cX4_takeNumber 96 = .ok (.iload_n 3, 1) := by decide +kernel
theorem dX4_takeNumber_97 : decode cX4_takeNumber 97 = .ok (.invokevirtual 64, 3) := by decide +kernel
theorem dX4_takeNumber_100 : decode cX4_takeNumber 100 = .ok (.goto 31, 3) := by decide +kernel
theorem dX4_takeNumber_103 : decode cX4_takeNumber 103 = .ok (.aload_n 0, 1) := by decide +kernel
theorem dX4_takeNumber_104 : decode cX4_takeNumber 104 = .ok (.getfield 25, 3) := by decide +kernel
theorem dX4_takeNumber_107 : decode cX4_takeNumber 107 = .ok (.iload_n 3, 1) := by decide +kernel
theorem dX4_takeNumber_108 : decode cX4_takeNumber 108 = .ok (.isub, 1) := by decide +kernel
theorem dX4_takeNumber_109 : decode cX4_takeNumber 109 = .ok (.iconst 3, 1) := by decide +kernel
theorem dX4_takeNumber_110 : decode cX4_takeNumber 110 = .ok (.if_icmp .gt 15, 3) := by decide +kernel
theorem dX4_takeNumber_113 : decode cX4_takeNumber 113 = .ok (.iload 4, 2) := by decide +kernel
theorem dX4_takeNumber_115 : decode cX4_takeNumber 115 = .ok (.iload_n 1, 1) := by decide +kernel
theorem dX4_takeNumber_116 : decode cX4_takeNumber 116 = .ok (.if_icmp .lt 9, 3) := by decide +kernel
theorem dX4_takeNumber_119 : decode cX4_takeNumber 119 = .ok (.iload 4, 2) := by decide +kernel
theorem dX4_takeNumber_121 : decode cX4_takeNumber 121 = .ok (.iload_n 2, 1) := by decide +kernel
theorem dX4_takeNumber_122 : decode cX4_takeNumber 122 = .ok (.if_icmp .le 9, 3) := by decide +kernel
theorem dX4_takeNumber_125 : decode cX4_takeNumber 125 = .ok (.aload_n 0, 1) := by decide +kernel
theorem dX4_takeNumber_126 : decode cX4_takeNumber 126 = .ok (.iconst 2, 1) := by decide +kernel
theorem dX4_takeNumber_127 : decode cX4_takeNumber 127 = .ok (.iload_n 3, 1) := by decide +kernel
theorem dX4_takeNumber_128 : decode cX4_takeNumber 128 = .ok (.invokevirtual 64, 3) := by decide +kernel
theorem dX4_takeNumber_131 : decode cX4_takeNumber 131 = .ok (.iload 4, 2) := by decide +kernel
theorem dX4_takeNumber_133 : decode cX4_takeNumber 133 = .ok (.ireturn, 1) := by decide +kernel
theorem dX4_takeEnd_0 : decode cX4_takeEnd 0 = .ok (.aload_n 0, 1) := by decide +kernel
theorem dX4_takeEnd_1 : decode cX4_takeEnd 1 = .ok (.invokevirtual 33, 3) := by decide +kernel
theorem dX4_takeEnd_4 : decode cX4_takeEnd 4 = .ok (.aload_n 0, 1) := by decide +kernel
theorem dX4_takeEnd_5 : decode cX4_takeEnd 5 = .ok (.getfield 25, 3) := by decide +kernel
theorem dX4_takeEnd_8 : decode cX4_takeEnd 8 = .ok (.aload_n 0, 1) := by decide +kernel
theorem dX4_takeEnd_9 : decode cX4_takeEnd 9 = .ok (.getfield 15, 3) := by decide +kernel
theorem dX4_takeEnd_12 : decode cX4_takeEnd 12 = .ok (.if_icmp .ge 30, 3) := by decide +kernel
theorem dX4_takeEnd_15 : decode cX4_takeEnd 15 = .ok (.aload_n 0, 1) := by decide +kernel
theorem dX4_takeEnd_16 : decode cX4_takeEnd 16 = .ok (.getfield 9, 3) := by decide +kernel
theorem dX4_takeEnd_19 : decode cX4_takeEnd 19 = .ok (.aload_n 0, 1) := by decide +kernel
theorem dX4_takeEnd_20 : decode cX4_takeEnd 20 = .ok (.getfield 25, 3) := by decide +kernel
theorem dX4_takeEnd_23 : decode cX4_takeEnd 23 = .ok (.iaload, 1) := by decide +kernel
theorem dX4_takeEnd_24 : decode cX4_takeEnd 24 = .ok (.bipush 59, 2) := by decide +kernel
theorem dX4_takeEnd_26 : decode cX4_takeEnd 26 = .ok (.if_icmp .ne 16, 3) := by decide +kernel
theorem dX4_takeEnd_29 : decode cX4_takeEnd 29 = .ok (.aload_n 0, 1) := by decide +kernel
theorem dX4_takeEnd_30 : decode cX4_takeEnd 30 = .ok (.dup, 1) := by decide +kernel
theorem dX4_takeEnd_31 : decode cX4_takeEnd 31 = .ok (.getfield 25, 3) := by decide +kernel
theorem dX4_takeEnd_34 : decode cX4_takeEnd 34 = .ok (.iconst 1, 1) := by decide +kernel
theorem dX4_takeEnd_35 : decode cX4_takeEnd 35 = .ok (.iadd, 1) := by decide +kernel
theorem dX4_takeEnd_36 : decode cX4_takeEnd 36 = .ok (.putfield 25, 3) := by decide +kernel
theorem dX4_takeEnd_39 : decode cX4_takeEnd 39 = .ok (.goto 12, 3) := by decide +kernel
theorem dX4_takeEnd_42 : decode cX4_takeEnd 42 = .ok (.aload_n 0, 1) := by decide +kernel
theorem dX4_takeEnd_43 : decode cX4_takeEnd 43 = .ok (.iconst 1, 1) := by decide +kernel
theorem dX4_takeEnd_44 : decode cX4_takeEnd 44 = .ok (.aload_n 0, 1) := by decide +kernel
theorem dX4_takeEnd_45 : decode cX4_takeEnd 45 = .ok (.getfield 25, 3) := by decide +kernel
theorem dX4_takeEnd_48 : decode cX4_takeEnd 48 = .ok (.invokevirtual 64, 3) := by decide +kernel
theorem dX4_takeEnd_51 : decode cX4_takeEnd 51 = .ok (.return_, 1) := by decide +kernel
theorem dX4_skipBlanks_0 : decode cX4_skipBlanks 0 = .ok (.aload_n 0, 1) := by decide +kernel
theorem dX4_skipBlanks_1 : decode cX4_skipBlanks 1 = .ok (.getfield 25, 3) := by decide +kernel
theorem dX4_skipBlanks_4 : decode cX4_skipBlanks 4 = .ok (.aload_n 0, 1) := by decide +kernel
theorem dX4_skipBlanks_5 : decode cX4_skipBlanks 5 = .ok (.getfield 15, 3) := by decide +kernel
theorem dX4_skipBlanks_8 : decode cX4_skipBlanks 8 = .ok (.if_icmp .ge 30, 3) := by decide +kernel
theorem dX4_skipBlanks_11 : decode cX4_skipBlanks 11 = .ok (.aload_n 0, 1) := by decide +kernel
theorem dX4_skipBlanks_12 : decode cX4_skipBlanks 12 = .ok (.getfield 9, 3) := by decide +kernel
theorem dX4_skipBlanks_15 : decode cX4_skipBlanks 15 = .ok (.aload_n 0, 1) := by decide +kernel
theorem dX4_skipBlanks_16 : decode cX4_skipBlanks 16 = .ok (.getfield 25, 3) := by decide +kernel
theorem dX4_skipBlanks_19 : decode cX4_skipBlanks 19 = .ok (.iaload, 1) := by decide +kernel
theorem dX4_skipBlanks_20 : decode cX4_skipBlanks 20 = .ok (.bipush 32, 2) := by decide +kernel
theorem dX4_skipBlanks_22 : decode cX4_skipBlanks 22 = .ok (.if_icmp .ne 16, 3) := by decide +kernel
theorem dX4_skipBlanks_25 : decode cX4_skipBlanks 25 = .ok (.aload_n 0, 1) := by decide +kernel
theorem dX4_skipBlanks_26 : decode cX4_skipBlanks 26 = .ok (.dup, 1) := by decide +kernel
theorem dX4_skipBlanks_27 : decode cX4_skipBlanks 27 = .ok (.getfield 25, 3) := by decide +kernel
theorem dX4_skipBlanks_30 : decode cX4_skipBlanks 30 = .ok (.iconst 1, 1) := by decide +kernel
theorem dX4_skipBlanks_31 : decode cX4_skipBlanks 31 = .ok (.iadd, 1) := by decide +kernel
theorem dX4_skipBlanks_32 : decode cX4_skipBlanks 32 = .ok (.putfield 25, 3) := by decide +kernel
theorem dX4_skipBlanks_35 : decode cX4_skipBlanks 35 = .ok (.goto (-35), 3) := by decide +kernel
theorem dX4_skipBlanks_38 : decode cX4_skipBlanks 38 = .ok (.return_, 1) := by decide +kernel
theorem dX4_wordEnd_0 : decode cX4_wordEnd 0 = .ok (.aload_n 0, 1) := by decide +kernel
theorem dX4_wordEnd_1 : decode cX4_wordEnd 1 = .ok (.getfield 25, 3) := by decide +kernel
theorem dX4_wordEnd_4 : decode cX4_wordEnd 4 = .ok (.istore_n 1, 1) := by decide +kernel
theorem dX4_wordEnd_5 : decode cX4_wordEnd 5 = .ok (.iload_n 1, 1) := by decide +kernel
theorem dX4_wordEnd_6 : decode cX4_wordEnd 6 = .ok (.aload_n 0, 1) := by decide +kernel
theorem dX4_wordEnd_7 : decode cX4_wordEnd 7 = .ok (.getfield 15, 3) := by decide +kernel
theorem dX4_wordEnd_10 : decode cX4_wordEnd 10 = .ok (.if_icmp .ge 31, 3) := by decide +kernel
theorem dX4_wordEnd_13 : decode cX4_wordEnd 13 = .ok (.aload_n 0, 1) := by decide +kernel
theorem dX4_wordEnd_14 : decode cX4_wordEnd 14 = .ok (.getfield 9, 3) := by decide +kernel
theorem dX4_wordEnd_17 : decode cX4_wordEnd 17 = .ok (.iload_n 1, 1) := by decide +kernel
theorem dX4_wordEnd_18 : decode cX4_wordEnd 18 = .ok (.iaload, 1) := by decide +kernel
theorem dX4_wordEnd_19 : decode cX4_wordEnd 19 = .ok (.bipush 97, 2) := by decide +kernel
theorem dX4_wordEnd_21 : decode cX4_wordEnd 21 = .ok (.if_icmp .lt 20, 3) := by decide +kernel
theorem dX4_wordEnd_24 : decode cX4_wordEnd 24 = .ok (.aload_n 0, 1) := by decide +kernel
theorem dX4_wordEnd_25 : decode cX4_wordEnd 25 = .ok (.getfield 9, 3) := by decide +kernel
theorem dX4_wordEnd_28 : decode cX4_wordEnd 28 = .ok (.iload_n 1, 1) := by decide +kernel
theorem dX4_wordEnd_29 : decode cX4_wordEnd 29 = .ok (.iaload, 1) := by decide +kernel
theorem dX4_wordEnd_30 : decode cX4_wordEnd 30 = .ok (.bipush 122, 2) := by decide +kernel
theorem dX4_wordEnd_32 : decode cX4_wordEnd 32 = .ok (.if_icmp .gt 9, 3) := by decide +kernel
theorem dX4_wordEnd_35 : decode cX4_wordEnd 35 = .ok (.iinc 1 1, 3) := by decide +kernel
theorem dX4_wordEnd_38 : decode cX4_wordEnd 38 = .ok (.goto (-33), 3) := by decide +kernel
theorem dX4_wordEnd_41 : decode cX4_wordEnd 41 = .ok (.iload_n 1, 1) := by decide +kernel
theorem dX4_wordEnd_42 : decode cX4_wordEnd 42 = .ok (.ireturn, 1) := by decide +kernel
theorem dX4_spells_0 : decode cX4_spells 0 = .ok (.iload_n 2, 1) := by decide +kernel
theorem dX4_spells_1 : decode cX4_spells 1 = .ok (.iload_n 1, 1) := by decide +kernel
theorem dX4_spells_2 : decode cX4_spells 2 = .ok (.isub, 1) := by decide +kernel
theorem dX4_spells_3 : decode cX4_spells 3 = .ok (.aload_n 3, 1) := by decide +kernel
theorem dX4_spells_4 : decode cX4_spells 4 = .ok (.invokevirtual 112, 3) := by decide +kernel
theorem dX4_spells_7 : decode cX4_spells 7 = .ok (.if_icmp .eq 5, 3) := by decide +kernel
theorem dX4_spells_10 : decode cX4_spells 10 = .ok (.iconst 0, 1) := by decide +kernel
theorem dX4_spells_11 : decode cX4_spells 11 = .ok (.ireturn, 1) := by decide +kernel
theorem dX4_spells_12 : decode cX4_spells 12 = .ok (.iconst 0, 1) := by decide +kernel
theorem dX4_spells_13 : decode cX4_spells 13 = .ok (.istore 4, 2) := by decide +kernel
theorem dX4_spells_15 : decode cX4_spells 15 = .ok (.iload 4, 2) := by decide +kernel
theorem dX4_spells_17 : decode cX4_spells 17 = .ok (.aload_n 3, 1) := by decide +kernel
theorem dX4_spells_18 : decode cX4_spells 18 = .ok (.invokevirtual 112, 3) := by decide +kernel
theorem dX4_spells_21 : decode cX4_spells 21 = .ok (.if_icmp .ge 29, 3) := by decide +kernel
theorem dX4_spells_24 : decode cX4_spells 24 = .ok (.aload_n 0, 1) := by decide +kernel
theorem dX4_spells_25 : decode cX4_spells 25 = .ok (.getfield 9, 3) := by decide +kernel
theorem dX4_spells_28 : decode cX4_spells 28 = .ok (.iload_n 1, 1) := by decide +kernel
theorem dX4_spells_29 : decode cX4_spells 29 = .ok (.iload 4, 2) := by decide +kernel
theorem dX4_spells_31 : decode cX4_spells 31 = .ok (.iadd, 1) := by decide +kernel
theorem dX4_spells_32 : decode cX4_spells 32 = .ok (.iaload, 1) := by decide +kernel
theorem dX4_spells_33 : decode cX4_spells 33 = .ok (.aload_n 3, 1) := by decide +kernel
theorem dX4_spells_34 : decode cX4_spells 34 = .ok (.iload 4, 2) := by decide +kernel
theorem dX4_spells_36 : decode cX4_spells 36 = .ok (.invokevirtual 116, 3) := by decide +kernel
theorem dX4_spells_39 : decode cX4_spells 39 = .ok (.if_icmp .eq 5, 3) := by decide +kernel
theorem dX4_spells_42 : decode cX4_spells 42 = .ok (.iconst 0, 1) := by decide +kernel
theorem dX4_spells_43 : decode cX4_spells 43 = .ok (.ireturn, 1) := by decide +kernel
theorem dX4_spells_44 : decode cX4_spells 44 = .ok (.iinc 4 1, 3) := by decide +kernel
theorem dX4_spells_47 : decode cX4_spells 47 = .ok (.goto (-32), 3) := by decide +kernel
theorem dX4_spells_50 : decode cX4_spells 50 = .ok (.iconst 1, 1) := by decide +kernel
theorem dX4_spells_51 : decode cX4_spells 51 = .ok (.ireturn, 1) := by decide +kernel
theorem dX4_isFigure_0 : decode cX4_isFigure 0 = .ok (.iload_n 0, 1) := by decide +kernel
theorem dX4_isFigure_1 : decode cX4_isFigure 1 = .ok (.bipush 48, 2) := by decide +kernel
theorem dX4_isFigure_3 : decode cX4_isFigure 3 = .ok (.if_icmp .lt 13, 3) := by decide +kernel
theorem dX4_isFigure_6 : decode cX4_isFigure 6 = .ok (.iload_n 0, 1) := by decide +kernel
theorem dX4_isFigure_7 : decode cX4_isFigure 7 = .ok (.bipush 57, 2) := by decide +kernel
theorem dX4_isFigure_9 : decode cX4_isFigure 9 = .ok (.if_icmp .gt 7, 3) := by decide +kernel
theorem dX4_isFigure_12 : decode cX4_isFigure 12 = .ok (.iconst 1, 1) := by decide +kernel
theorem dX4_isFigure_13 : decode cX4_isFigure 13 = .ok (.goto 4, 3) := by decide +kernel
theorem dX4_isFigure_16 : decode cX4_isFigure 16 = .ok (.iconst 0, 1) := by decide +kernel
theorem dX4_isFigure_17 : decode cX4_isFigure 17 = .ok (.ireturn, 1) := by decide +kernel
theorem dX4_fail_0 : decode cX4_fail 0 = .ok (.aload_n 0, 1) := by decide +kernel
theorem dX4_fail_1 : decode cX4_fail 1 = .ok (.getfield 19, 3) := by decide +kernel
theorem dX4_fail_4 : decode cX4_fail 4 = .ok (.ifCond .ne 13, 3) := by decide +kernel
theorem dX4_fail_7 : decode cX4_fail 7 = .ok (.aload_n 0, 1) := by decide +kernel
theorem dX4_fail_8 : decode cX4_fail 8 = .ok (.iload_n 1, 1) := by decide +kernel
theorem dX4_fail_9 : decode cX4_fail 9 = .ok (.putfield 19, 3) := by decide +kernel
theorem dX4_fail_12 : decode cX4_fail 12 = .ok (.aload_n 0, 1) := by decide +kernel
theorem dX4_fail_13 : decode cX4_fail 13 = .ok (.iload_n 2, 1) := by decide +kernel
theorem dX4_fail_14 : decode cX4_fail 14 = .ok (.putfield 22, 3) := by decide +kernel
theorem dX4_fail_17 : decode cX4_fail 17 = .ok (.return_, 1) := by decide +kernel
theorem dX5_open_0 : decode cX5_open 0 = .ok (.aload_n 0, 1) := by decide +kernel
theorem dX5_open_1 : decode cX5_open 1 = .ok (.aload_n 0, 1) := by decide +kernel
theorem dX5_open_2 : decode cX5_open 2 = .ok (.getfield 50, 3) := by decide +kernel
theorem dX5_open_5 : decode cX5_open 5 = .ok (.getfield 60, 3) := by decide +kernel
theorem dX5_open_8 : decode cX5_open 8 = .ok (.putfield 40, 3) := by decide +kernel
theorem dX5_open_11 : decode cX5_open 11 = .ok (.iconst 0, 1) := by decide +kernel
theorem dX5_open_12 : decode cX5_open 12 = .ok (.istore_n 1, 1) := by decide +kernel
theorem dX5_open_13 : decode cX5_open 13 = .ok (.iload_n 1, 1) := by decide +kernel
theorem dX5_open_14 : decode cX5_open 14 = .ok (.aload_n 0, 1) := by decide +kernel
theorem dX5_open_15 : decode cX5_open 15 = .ok (.getfield 50, 3) := by decide +kernel
theorem dX5_open_18 : decode cX5_open 18 = .ok (.getfield 60, 3) := by decide +kernel
theorem dX5_open_21 : decode cX5_open 21 = .ok (.if_icmp .ge 52, 3) := by decide +kernel
theorem dX5_open_24 : decode cX5_open 24 = .ok (.aload_n 0, 1) := by decide +kernel
theorem dX5_open_25 : decode cX5_open 25 = .ok (.getfield 18, 3) := by decide +kernel
theorem dX5_open_28 : decode cX5_open 28 = .ok (.iload_n 1, 1) := by decide +kernel
theorem dX5_open_29 : decode cX5_open 29 = .ok (.iload_n 1, 1) := by decide +kernel
theorem dX5_open_30 : decode cX5_open 30 = .ok (.iastore, 1) := by decide +kernel
theorem dX5_open_31 : decode cX5_open 31 = .ok (.aload_n 0, 1) := by decide +kernel
theorem dX5_open_32 : decode cX5_open 32 = .ok (.getfield 22, 3) := by decide +kernel
theorem dX5_open_35 : decode cX5_open 35 = .ok (.iload_n 1, 1) := by decide +kernel
theorem dX5_open_36 : decode cX5_open 36 = .ok (.iconst 0, 1) := by decide +kernel
theorem dX5_open_37 : decode cX5_open 37 = .ok (.iastore, 1) := by decide +kernel
theorem dX5_open_38 : decode cX5_open 38 = .ok (.aload_n 0, 1) := by decide +kernel
theorem dX5_open_39 : decode cX5_open 39 = .ok (.getfield 25, 3) := by decide +kernel
theorem dX5_open_42 : decode cX5_open 42 = .ok (.iload_n 1, 1) := by decide +kernel
theorem dX5_open_43 : decode cX5_open 43 = .ok (.aload_n 0, 1) := by decide +kernel
theorem dX5_open_44 : decode cX5_open 44 = .ok (.getfield 50, 3) := by decide +kernel
theorem dX5_open_47 : decode cX5_open 47 = .ok (.getfield 65, 3) := by decide +kernel
theorem dX5_open_50 : decode cX5_open 50 = .ok (.iload_n 1, 1) := by decide +kernel
theorem dX5_open_51 : decode cX5_open 51 = .ok (.iaload, 1) := by decide +kernel
theorem dX5_open_52 : decode cX5_open 52 = .ok (.iastore, 1) := by decide +kernel
theorem dX5_open_53 : decode cX5_open 53 = .ok (.aload_n 0, 1) := by decide +kernel
theorem dX5_open_54 : decode cX5_open 54 = .ok (.getfield 28, 3) := by decide +kernel
theorem dX5_open_57 : decode cX5_open 57 = .ok (.iload_n 1, 1) := by decide +kernel
theorem dX5_open_58 : decode cX5_open 58 = .ok (.iconst (-1), 1) := by decide +kernel
theorem dX5_open_59 : decode cX5_open 59 = .ok (.iastore, 1) := by decide +kernel
theorem dX5_open_60 : decode cX5_open 60 = .ok (.aload_n 0, 1) := by decide +kernel
theorem dX5_open_61 : decode cX5_open 61 = .ok (.getfield 37, 3) := by decide +kernel
theorem dX5_open_64 : decode cX5_open 64 = .ok (.iload_n 1, 1) := by decide +kernel
theorem dX5_open_65 : decode cX5_open 65 = .ok (.iconst 0, 1) := by decide +kernel
theorem dX5_open_66 : decode cX5_open 66 = .ok (.iastore, 1) := by decide +kernel
theorem dX5_open_67 : decode cX5_open 67 = .ok (.iinc 1 1, 3) := by decide +kernel
theorem dX5_open_70 : decode cX5_open 70 = .ok (.goto (-57), 3) := by decide +kernel
theorem dX5_open_73 : decode cX5_open 73 = .ok (.aload_n 0, 1) := by decide +kernel
theorem dX5_open_74 : decode cX5_open 74 = .ok (.getfield 31, 3) := by decide +kernel
theorem dX5_open_77 : decode cX5_open 77 = .ok (.iconst (-1), 1) := by decide +kernel
theorem dX5_open_78 : decode cX5_open 78 = .ok (.invokestatic 54, 3) := by decide +kernel
theorem dX5_open_81 : decode cX5_open 81 = .ok (.aload_n 0, 1) := by decide +kernel
theorem dX5_open_82 : decode cX5_open 82 = .ok (.getfield 12, 3) := by decide +kernel
theorem dX5_open_85 : decode cX5_open 85 = .ok (.iconst 0, 1) := by decide +kernel
theorem dX5_open_86 : decode cX5_open 86 = .ok (.putfield 68, 3) := by decide +kernel
theorem dX5_open_89 : decode cX5_open 89 = .ok (.aload_n 0, 1) := by decide +kernel
theorem dX5_open_90 : decode cX5_open 90 = .ok (.iconst 0, 1) := by decide +kernel
theorem dX5_open_91 : decode cX5_open 91 = .ok (.putfield 44, 3) := by decide +kernel
theorem dX5_open_94 : decode cX5_open 94 = .ok (.return_, 1) := by decide +kernel
theorem dX5_copyFrom_0 : decode cX5_copyFrom 0 = .ok (.aload_n 0, 1) := by decide +kernel
theorem dX5_copyFrom_1 : decode cX5_copyFrom 1 = .ok (.aload_n 1, 1) := by decide +kernel
theorem dX5_copyFrom_2 : decode cX5_copyFrom 2 = .ok (.invokevirtual 71, 3) := by decide +kernel
theorem dX5_copyFrom_5 : decode cX5_copyFrom 5 = .ok (.aload_n 1, 1) := by decide +kernel
theorem dX5_copyFrom_6 : decode cX5_copyFrom 6 = .ok (.getfield 37, 3) := by decide +kernel
theorem dX5_copyFrom_9 : decode cX5_copyFrom 9 = .ok (.iconst 0, 1) := by decide +kernel
theorem dX5_copyFrom_10 : decode cX5_copyFrom 10 = .ok (.aload_n 0, 1) := by decide +kernel
theorem dX5_copyFrom_11 : decode cX5_copyFrom 11 = .ok (.getfield 37, 3) := by decide +kernel
theorem dX5_copyFrom_14 : decode cX5_copyFrom 14 = .ok (.iconst 0, 1) := by decide +kernel
theorem dX5_copyFrom_15 : decode cX5_copyFrom 15 = .ok (.bipush 16, 2) := by decide +kernel
theorem dX5_copyFrom_17 : decode cX5_copyFrom 17 = .ok (.invokestatic 75, 3) := by decide +kernel
theorem dX5_copyFrom_20 : decode cX5_copyFrom 20 = .ok (.aload_n 0, 1) := by decide +kernel
theorem dX5_copyFrom_21 : decode cX5_copyFrom 21 = .ok (.getfield 12, 3) := by decide +kernel
theorem dX5_copyFrom_24 : decode cX5_copyFrom 24 = .ok (.aload_n 1, 1) := by decide +kernel
theorem dX5_copyFrom_25 : decode cX5_copyFrom 25 = .ok (.getfield 12, 3) := by decide +kernel
theorem dX5_copyFrom_28 : decode cX5_copyFrom 28 = .ok (.invokevirtual 81, 3) := by decide +kernel
theorem dX5_copyFrom_31 : decode cX5_copyFrom 31 = .ok (.return_, 1) := by decide +kernel
theorem dX5_copyBooks_0 : decode cX5_copyBooks 0 = .ok (.aload_n 1, 1) := by decide +kernel
theorem dX5_copyBooks_1 : decode cX5_copyBooks 1 = .ok (.getfield 18, 3) := by decide +kernel
theorem dX5_copyBooks_4 : decode cX5_copyBooks 4 = .ok (.iconst 0, 1) := by decide +kernel
theorem dX5_copyBooks_5 : decode cX5_copyBooks 5 = .ok (.aload_n 0, 1) := by decide +kernel
theorem dX5_copyBooks_6 : decode cX5_copyBooks 6 = .ok (.getfield 18, 3) := by decide +kernel
theorem dX5_copyBooks_9 : decode cX5_copyBooks 9 = .ok (.iconst 0, 1) := by decide +kernel
theorem dX5_copyBooks_10 : decode cX5_copyBooks 10 = .ok (.bipush 40, 2) := by decide +kernel
theorem dX5_copyBooks_12 : decode cX5_copyBooks 12 = .ok (.invokestatic 75, 3) := by decide +kernel
theorem dX5_copyBooks_15 : decode cX5_copyBooks 15 = .ok (.aload_n 1, 1) := by decide +kernel
theorem dX5_copyBooks_16 : decode cX5_copyBooks 16 = .ok (.getfield 22, 3) := by decide +kernel
theorem dX5_copyBooks_19 : decode cX5_copyBooks 19 = .ok (.iconst 0, 1) := by decide +kernel
theorem dX5_copyBooks_20 : decode cX5_copyBooks 20 = .ok (.aload_n 0, 1) := by decide +kernel
theorem dX5_copyBooks_21 : decode cX5_copyBooks 21 = .ok (.getfield 22, 3) := by decide +kernel
theorem dX5_copyBooks_24 : decode cX5_copyBooks 24 = .ok (.iconst 0, 1) := by decide +kernel
theorem dX5_copyBooks_25 : decode cX5_copyBooks 25 = .ok (.bipush 40, 2) := by decide +kernel
theorem dX5_copyBooks_27 : decode cX5_copyBooks 27 = .ok (.invokestatic 75, 3) := by decide +kernel
theorem dX5_copyBooks_30 : decode cX5_copyBooks 30 = .ok (.aload_n 1, 1) := by decide +kernel
theorem dX5_copyBooks_31 : decode cX5_copyBooks 31 = .ok (.getfield 25, 3) := by decide +kernel
theorem dX5_copyBooks_34 : decode cX5_copyBooks 34 = .ok (.iconst 0, 1) := by decide +kernel
theorem dX5_copyBooks_35 : decode cX5_copyBooks 35 = .ok (.aload_n 0, 1) := by decide +kernel
theorem dX5_copyBooks_36 : decode cX5_copyBooks 36 = .ok (.getfield 25, 3) := by decide +kernel
theorem dX5_copyBooks_39 : decode cX5_copyBooks 39 = .ok (.iconst 0, 1) := by decide +kernel
theorem dX5_copyBooks_40 : decode cX5_copyBooks 40 = .ok (.bipush 40, 2) := by decide +kernel
theorem dX5_copyBooks_42 : decode cX5_copyBooks 42 = .ok (.invokestatic 75, 3) := by decide +kernel
theorem dX5_copyBooks_45 : decode cX5_copyBooks 45 = .ok (.aload_n 1, 1) := by decide +kernel
theorem dX5_copyBooks_46 : decode cX5_copyBooks 46 = .ok (.getfield 28, 3) := by decide +kernel
theorem dX5_copyBooks_49 : decode cX5_copyBooks 49 = .ok (.iconst 0, 1) := by decide +kernel
theorem dX5_copyBooks_50 : decode cX5_copyBooks 50 = .ok (.aload_n 0, 1) := by decide +kernel
theorem dX5_copyBooks_51 : decode cX5_copyBooks 51 = .ok (.getfield 28, 3) := by decide +kernel
theorem dX5_copyBooks_54 : decode cX5_copyBooks 54 = .ok (.iconst 0, 1) := by decide +kernel
theorem dX5_copyBooks_55 : decode cX5_copyBooks 55 = .ok (.bipush 40, 2) := by decide +kernel
theorem dX5_copyBooks_57 : decode cX5_copyBooks 57 = .ok (.invokestatic 75, 3) := by decide +kernel
theorem dX5_copyBooks_60 : decode cX5_copyBooks 60 = .ok (.aload_n 1, 1) := by decide +kernel
theorem dX5_copyBooks_61 : decode cX5_copyBooks 61 = .ok (.getfield 31, 3) := by decide +kernel
theorem dX5_copyBooks_64 : decode cX5_copyBooks 64 = .ok (.iconst 0, 1) := by decide +kernel
theorem dX5_copyBooks_65 : decode cX5_copyBooks 65 = .ok (.aload_n 0, 1) := by decide +kernel
theorem dX5_copyBooks_66 : decode cX5_copyBooks 66 = .ok (.getfield 31, 3) := by decide +kernel
theorem dX5_copyBooks_69 : decode cX5_copyBooks 69 = .ok (.iconst 0, 1) := by decide +kernel
theorem dX5_copyBooks_70 : decode cX5_copyBooks 70 = .ok (.sipush 128, 3) := by decide +kernel
theorem dX5_copyBooks_73 : decode cX5_copyBooks 73 = .ok (.invokestatic 75, 3) := by decide +kernel
theorem dX5_copyBooks_76 : decode cX5_copyBooks 76 = .ok (.aload_n 1, 1) := by decide +kernel
theorem dX5_copyBooks_77 : decode cX5_copyBooks 77 = .ok (.getfield 34, 3) := by decide +kernel
theorem dX5_copyBooks_80 : decode cX5_copyBooks 80 = .ok (.iconst 0, 1) := by decide +kernel
theorem dX5_copyBooks_81 : decode cX5_copyBooks 81 = .ok (.aload_n 0, 1) := by decide +kernel
theorem dX5_copyBooks_82 : decode cX5_copyBooks 82 = .ok (.getfield 34, 3) := by decide +kernel
theorem dX5_copyBooks_85 : decode cX5_copyBooks 85 = .ok (.iconst 0, 1) := by decide +kernel
theorem dX5_copyBooks_86 : decode cX5_copyBooks 86 = .ok (.sipush 128, 3) := by decide +kernel
theorem dX5_copyBooks_89 : decode cX5_copyBooks 89 = .ok (.invokestatic 75, 3) := by decide +kernel
theorem dX5_copyBooks_92 : decode cX5_copyBooks 92 = .ok (.aload_n 0, 1) := by decide +kernel
theorem dX5_copyBooks_93 : decode cX5_copyBooks 93 = .ok (.aload_n 1, 1) := by decide +kernel
theorem dX5_copyBooks_94 : decode cX5_copyBooks 94 = .ok (.getfield 40, 3) := by decide +kernel
theorem dX5_copyBooks_97 : decode cX5_copyBooks 97 = .ok (.putfield 40, 3) := by decide +kernel
theorem dX5_copyBooks_100 : decode cX5_copyBooks 100 = .ok (.aload_n 0, 1) := by decide +kernel
theorem dX5_copyBooks_101 : decode cX5_copyBooks 101 = .ok (.aload_n 1, 1) := by decide +kernel
theorem dX5_copyBooks_102 : decode cX5_copyBooks 102 = .ok (.getfield 44, 3) := by decide +kernel
theorem dX5_copyBooks_105 : decode cX5_copyBooks 105 = .ok (.putfield 44, 3) := by decide +kernel
theorem dX5_copyBooks_108 : decode cX5_copyBooks 108 = .ok (.aload_n 0, 1) := by decide +kernel
theorem dX5_copyBooks_109 : decode cX5_copyBooks 109 = .ok (.aload_n 1, 1) := by decide +kernel
theorem dX5_copyBooks_110 : decode cX5_copyBooks 110 = .ok (.getfield 47, 3) := by decide +kernel
theorem dX5_copyBooks_113 : decode cX5_copyBooks 113 = .ok (.putfield 47, 3) := by decide +kernel
theorem dX5_copyBooks_116 : decode cX5_copyBooks 116 = .ok (.return_, 1) := by decide +kernel
theorem dX5_hasPage_0 : decode cX5_hasPage 0 = .ok (.iload_n 1, 1) := by decide +kernel
theorem dX5_hasPage_1 : decode cX5_hasPage 1 = .ok (.ifCond .lt 15, 3) := by decide +kernel
theorem dX5_hasPage_4 : decode cX5_hasPage 4 = .ok (.iload_n 1, 1) := by decide +kernel
theorem dX5_hasPage_5 : decode cX5_hasPage 5 = .ok (.aload_n 0, 1) := by decide +kernel
theorem dX5_hasPage_6 : decode cX5_hasPage 6 = .ok (.getfield 40, 3) := by decide +kernel
theorem dX5_hasPage_9 : decode cX5_hasPage 9 = .ok (.if_icmp .ge 7, 3) := by decide +kernel
theorem dX5_hasPage_12 : decode cX5_hasPage 12 = .ok (.iconst 1, 1) := by decide +kernel
theorem dX5_hasPage_13 : decode cX5_hasPage 13 = .ok (.goto 4, 3) := by decide +kernel
theorem dX5_hasPage_16 : decode cX5_hasPage 16 = .ok (.iconst 0, 1) := by decide +kernel
theorem dX5_hasPage_17 : decode cX5_hasPage 17 = .ok (.ireturn, 1) := by decide +kernel
theorem dX5_isGone_0 : decode cX5_isGone 0 = .ok (.aload_n 0, 1) := by decide +kernel
theorem dX5_isGone_1 : decode cX5_isGone 1 = .ok (.getfield 25, 3) := by decide +kernel
theorem dX5_isGone_4 : decode cX5_isGone 4 = .ok (.iload_n 1, 1) := by decide +kernel
theorem dX5_isGone_5 : decode cX5_isGone 5 = .ok (.iaload, 1) := by decide +kernel
theorem dX5_isGone_6 : decode cX5_isGone 6 = .ok (.bipush 9, 2) := by decide +kernel
theorem dX5_isGone_8 : decode cX5_isGone 8 = .ok (.if_icmp .lt 7, 3) := by decide +kernel
theorem dX5_isGone_11 : decode cX5_isGone 11 = .ok (.iconst 1, 1) := by decide +kernel
theorem dX5_isGone_12 : decode cX5_isGone 12 = .ok (.goto 4, 3) := by decide +kernel
theorem dX5_isGone_15 : decode cX5_isGone 15 = .ok (.iconst 0, 1) := by decide +kernel
theorem dX5_isGone_16 : decode cX5_isGone 16 = .ok (.ireturn, 1) := by decide +kernel
theorem dX5_isFull_0 : decode cX5_isFull 0 = .ok (.aload_n 0, 1) := by decide +kernel
theorem dX5_isFull_1 : decode cX5_isFull 1 = .ok (.getfield 40, 3) := by decide +kernel
theorem dX5_isFull_4 : decode cX5_isFull 4 = .ok (.bipush 40, 2) := by decide +kernel
theorem dX5_isFull_6 : decode cX5_isFull 6 = .ok (.if_icmp .lt 7, 3) := by decide +kernel
theorem dX5_isFull_9 : decode cX5_isFull 9 = .ok (.iconst 1, 1) := by decide +kernel
theorem dX5_isFull_10 : decode cX5_isFull 10 = .ok (.goto 4, 3) := by decide +kernel
theorem dX5_isFull_13 : decode cX5_isFull 13 = .ok (.iconst 0, 1) := by decide +kernel
theorem dX5_isFull_14 : decode cX5_isFull 14 = .ok (.ireturn, 1) := by decide +kernel
theorem dX5_heart_0 : decode cX5_heart 0 = .ok (.iload_n 0, 1) := by decide +kernel
theorem dX5_heart_1 : decode cX5_heart 1 = .ok (.bipush 16, 2) := by decide +kernel
theorem dX5_heart_3 : decode cX5_heart 3 = .ok (.imul, 1) := by decide +kernel
theorem dX5_heart_4 : decode cX5_heart 4 = .ok (.iload_n 1, 1) := by decide +kernel
theorem dX5_heart_5 : decode cX5_heart 5 = .ok (.iadd, 1) := by decide +kernel
theorem dX5_heart_6 : decode cX5_heart 6 = .ok (.ireturn, 1) := by decide +kernel
theorem dX5_variantAt_0 : decode cX5_variantAt 0 = .ok (.iload_n 3, 1) := by decide +kernel
theorem dX5_variantAt_1 : decode cX5_variantAt 1 = .ok (.aload_n 0, 1) := by decide +kernel
theorem dX5_variantAt_2 : decode cX5_variantAt 2 = .ok (.iload_n 1, 1) := by decide +kernel
theorem dX5_variantAt_3 : decode cX5_variantAt 3 = .ok (.iload_n 2, 1) := by decide +kernel
theorem dX5_variantAt_4 : decode cX5_variantAt 4 = .ok (.invokevirtual 85, 3) := by decide +kernel
theorem dX5_variantAt_7 : decode cX5_variantAt 7 = .ok (.isub, 1) := by decide +kernel
theorem dX5_variantAt_8 : decode cX5_variantAt 8 = .ok (.aload_n 0, 1) := by decide +kernel
theorem dX5_variantAt_9 : decode cX5_variantAt 9 = .ok (.getfield 50, 3) := by decide +kernel
theorem dX5_variantAt_12 : decode cX5_variantAt 12 = .ok (.getfield 89, 3) := by decide +kernel
theorem dX5_variantAt_15 : decode cX5_variantAt 15 = .ok (.iload_n 1, 1) := by decide +kernel
theorem dX5_variantAt_16 : decode cX5_variantAt 16 = .ok (.iaload, 1) := by decide +kernel
theorem dX5_variantAt_17 : decode cX5_variantAt 17 = .ok (.if_icmp .ge 7, 3) := by decide +kernel
theorem dX5_variantAt_20 : decode cX5_variantAt 20 = .ok (.iconst 1, 1) := by decide +kernel
theorem dX5_variantAt_21 : decode cX5_variantAt 21 = .ok (.goto 4, 3) := by decide +kernel
theorem dX5_variantAt_24 : decode cX5_variantAt 24 = .ok (.iconst 0, 1) := by decide +kernel
theorem dX5_variantAt_25 : decode cX5_variantAt 25 = .ok (.istore 4, 2) := by decide +kernel
theorem dX5_variantAt_27 : decode cX5_variantAt 27 = .ok (.iload 4, 2) := by decide +kernel
theorem dX5_variantAt_29 : decode cX5_variantAt 29 = .ok (.ifCond .eq 16, 3) := by decide +kernel
theorem dX5_variantAt_32 : decode cX5_variantAt 32 = .ok (.aload_n 0, 1) := by decide +kernel
theorem dX5_variantAt_33 : decode cX5_variantAt 33 = .ok (.getfield 31, 3) := by decide +kernel
theorem dX5_variantAt_36 : decode cX5_variantAt 36 = .ok (.iload_n 1, 1) := by decide +kernel
theorem dX5_variantAt_37 : decode cX5_variantAt 37 = .ok (.iload_n 2, 1) := by decide +kernel
theorem dX5_variantAt_38 : decode cX5_variantAt 38 = .ok (.invokestatic 92, 3) := by decide +kernel
theorem dX5_variantAt_41 : decode cX5_variantAt 41 = .ok (.iaload, 1) := by decide +kernel
theorem dX5_variantAt_42 : decode cX5_variantAt 42 = .ok (.goto 4, 3) := by decide +kernel
theorem dX5_variantAt_45 : decode cX5_variantAt 45 = .ok (.iconst (-1), 1) := by decide +kernel
theorem dX5_variantAt_46 : decode cX5_variantAt 46 = .ok (.ireturn, 1) := by decide +kernel
theorem dX5_variantKnown_0 : decode cX5_variantKnown 0 = .ok (.aload_n 0, 1) := by decide +kernel
theorem dX5_variantKnown_1 : decode cX5_variantKnown 1 = .ok (.iload_n 1, 1) := by decide +kernel
theorem dX5_variantKnown_2 : decode cX5_variantKnown 2 = .ok (.iload_n 2, 1) := by decide +kernel
theorem dX5_variantKnown_3 : decode cX5_variantKnown 3 = .ok (.aload_n 0, 1) := by decide +kernel
theorem dX5_variantKnown_4 : decode cX5_variantKnown 4 = .ok (.getfield 44, 3) := by decide +kernel
theorem dX5_variantKnown_7 : decode cX5_variantKnown 7 = .ok (.invokevirtual 95, 3) := by decide +kernel
theorem dX5_variantKnown_10 : decode cX5_variantKnown 10 = .ok (.ireturn, 1) := by decide +kernel
theorem dX5_knowsAny_0 : decode cX5_knowsAny 0 = .ok (.aload_n 0, 1) := by decide +kernel
theorem dX5_knowsAny_1 : decode cX5_knowsAny 1 = .ok (.iload_n 1, 1) := by decide +kernel
theorem dX5_knowsAny_2 : decode cX5_knowsAny 2 = .ok (.iload_n 2, 1) := by decide +kernel
theorem dX5_knowsAny_3 : decode cX5_knowsAny 3 = .ok (.invokevirtual 99, 3) := by decide +kernel
theorem dX5_knowsAny_6 : decode cX5_knowsAny 6 = .ok (.iconst (-1), 1) := by decide +kernel
theorem dX5_knowsAny_7 : decode cX5_knowsAny 7 = .ok (.if_icmp .eq 7, 3) := by decide +kernel
theorem dX5_knowsAny_10 : decode cX5_knowsAny 10 = .ok (.iconst 1, 1) := by decide +kernel
theorem dX5_knowsAny_11 : decode cX5_knowsAny 11 = .ok (.goto 4, 3) := by decide +kernel
theorem dX5_knowsAny_14 : decode cX5_knowsAny 14 = .ok (.iconst 0, 1) := by decide +kernel
theorem dX5_knowsAny_15 : decode cX5_knowsAny 15 = .ok (.ireturn, 1) := by decide +kernel
theorem dX5_dayLearnt_0 : decode cX5_dayLearnt 0 = .ok (.aload_n 0, 1) := by decide +kernel
theorem dX5_dayLearnt_1 : decode cX5_dayLearnt 1 = .ok (.getfield 34, 3) := by decide +kernel
theorem dX5_dayLearnt_4 : decode cX5_dayLearnt 4 = .ok (.iload_n 1, 1) := by decide +kernel
theorem dX5_dayLearnt_5 : decode cX5_dayLearnt 5 = .ok (.iload_n 2, 1) := by decide +kernel
theorem dX5_dayLearnt_6 : decode cX5_dayLearnt 6 = .ok (.invokestatic 92, 3) := by decide +kernel
theorem dX5_dayLearnt_9 : decode cX5_dayLearnt 9 = .ok (.iaload, 1) := by decide +kernel
theorem dX5_dayLearnt_10 : decode cX5_dayLearnt 10 = .ok (.ireturn, 1) := by decide +kernel
theorem dX5_learn_0 : decode cX5_learn 0 = .ok (.aload_n 0, 1) := by decide +kernel
theorem dX5_learn_1 : decode cX5_learn 1 = .ok (.getfield 31, 3) := by decide +kernel
theorem dX5_learn_4 : decode cX5_learn 4 = .ok (.iload_n 1, 1) := by decide +kernel
theorem dX5_learn_5 : decode cX5_learn 5 = .ok (.iload_n 2, 1) := by decide +kernel
theorem dX5_learn_6 : decode cX5_learn 6 = .ok (.invokestatic 92, 3) := by decide +kernel
theorem dX5_learn_9 : decode cX5_learn 9 = .ok (.iload_n 3, 1) := by decide +kernel
theorem dX5_learn_10 : decode cX5_learn 10 = .ok (.iastore, 1) := by decide +kernel
theorem dX5_learn_11 : decode cX5_learn 11 = .ok (.aload_n 0, 1) := by decide +kernel
theorem dX5_learn_12 : decode cX5_learn 12 = .ok (.getfield 34, 3) := by decide +kernel
theorem dX5_learn_15 : decode cX5_learn 15 = .ok (.iload_n 1, 1) := by decide +kernel
theorem dX5_learn_16 : decode cX5_learn 16 = .ok (.iload_n 2, 1) := by decide +kernel
theorem dX5_learn_17 : decode cX5_learn 17 = .ok (.invokestatic 92, 3) := by decide +kernel
theorem dX5_learn_20 : decode cX5_learn 20 = .ok (.aload_n 0, 1) := by decide +kernel
theorem dX5_learn_21 : decode cX5_learn 21 = .ok (.getfield 44, 3) := by decide +kernel
theorem dX5_learn_24 : decode cX5_learn 24 = .ok (.iastore, 1) := by decide +kernel
theorem dX5_learn_25 : decode cX5_learn 25 = .ok (.return_, 1) := by decide +kernel
theorem dX5_readPage_0 : decode cX5_readPage 0 = .ok (.aload_n 0, 1) := by decide +kernel
theorem dX5_readPage_1 : decode cX5_readPage 1 = .ok (.getfield 12, 3) := by decide +kernel
theorem dX5_readPage_4 : decode cX5_readPage 4 = .ok (.aload_n 0, 1) := by decide +kernel
theorem dX5_readPage_5 : decode cX5_readPage 5 = .ok (.getfield 44, 3) := by decide +kernel
theorem dX5_readPage_8 : decode cX5_readPage 8 = .ok (.iload_n 2, 1) := by decide +kernel
theorem dX5_readPage_9 : decode cX5_readPage 9 = .ok (.iload_n 1, 1) := by decide +kernel
theorem dX5_readPage_10 : decode cX5_readPage 10 = .ok (.invokevirtual 102, 3) := by decide +kernel
theorem dX5_readPage_13 : decode cX5_readPage 13 = .ok (.aload_n 0, 1) := by decide +kernel
theorem dX5_readPage_14 : decode cX5_readPage 14 = .ok (.getfield 25, 3) := by decide +kernel
theorem dX5_readPage_17 : decode cX5_readPage 17 = .ok (.iload_n 2, 1) := by decide +kernel
theorem dX5_readPage_18 : decode cX5_readPage 18 = .ok (.aload_n 0, 1) := by decide +kernel
theorem dX5_readPage_19 : decode cX5_readPage 19 = .ok (.getfield 50, 3) := by decide +kernel
theorem dX5_readPage_22 : decode cX5_readPage 22 = .ok (.getfield 106, 3) := by decide +kernel
theorem dX5_readPage_25 : decode cX5_readPage 25 = .ok (.iload_n 1, 1) := by decide +kernel
theorem dX5_readPage_26 : decode cX5_readPage 26 = .ok (.iaload, 1) := by decide +kernel
theorem dX5_readPage_27 : decode cX5_readPage 27 = .ok (.iconst 3, 1) := by decide +kernel
theorem dX5_readPage_28 : decode cX5_readPage 28 = .ok (.if_icmp .ne 8, 3) := by decide +kernel
theorem dX5_readPage_31 : decode cX5_readPage 31 = .ok (.bipush 9, 2) := by decide +kernel
theorem dX5_readPage_33 : decode cX5_readPage 33 = .ok (.goto 11, 3) := by decide +kernel
theorem dX5_readPage_36 : decode cX5_readPage 36 = .ok (.aload_n 0, 1) := by decide +kernel
theorem dX5_readPage_37 : decode cX5_readPage 37 = .ok (.getfield 25, 3) := by decide +kernel
theorem dX5_readPage_40 : decode cX5_readPage 40 = .ok (.iload_n 2, 1) := by decide +kernel
theorem dX5_readPage_41 : decode cX5_readPage 41 = .ok (.iaload, 1) := by decide +kernel
theorem dX5_readPage_42 : decode cX5_readPage 42 = .ok (.iconst 1, 1) := by decide +kernel
theorem dX5_readPage_43 : decode cX5_readPage 43 = .ok (.iadd, 1) := by decide +kernel
theorem dX5_readPage_44 : decode cX5_readPage 44 = .ok (.iastore, 1) := by decide +kernel
theorem dX5_readPage_45 : decode cX5_readPage 45 = .ok (.aload_n 0, 1) := by decide +kernel
theorem dX5_readPage_46 : decode cX5_readPage 46 = .ok (.getfield 50, 3) := by decide +kernel
theorem dX5_readPage_49 : decode cX5_readPage 49 = .ok (.getfield 106, 3) := by decide +kernel
theorem dX5_readPage_52 : decode cX5_readPage 52 = .ok (.iload_n 1, 1) := by decide +kernel
theorem dX5_readPage_53 : decode cX5_readPage 53 = .ok (.iaload, 1) := by decide +kernel
theorem dX5_readPage_54 : decode cX5_readPage 54 = .ok (.iconst 1, 1) := by decide +kernel
theorem dX5_readPage_55 : decode cX5_readPage 55 = .ok (.if_icmp .eq 21, 3) := by decide +kernel
theorem dX5_readPage_58 : decode cX5_readPage 58 = .ok (.aload_n 0, 1) := by decide +kernel
theorem dX5_readPage_59 : decode cX5_readPage 59 = .ok (.iload_n 1, 1) := by decide +kernel
theorem dX5_readPage_60 : decode cX5_readPage 60 = .ok (.aload_n 0, 1) := by decide +kernel
theorem dX5_readPage_61 : decode cX5_readPage 61 = .ok (.getfield 18, 3) := by decide +kernel
theorem dX5_readPage_64 : decode cX5_readPage 64 = .ok (.iload_n 2, 1) := by decide +kernel
theorem dX5_readPage_65 : decode cX5_readPage 65 = .ok (.iaload, 1) := by decide +kernel
theorem dX5_readPage_66 : decode cX5_readPage 66 = .ok (.aload_n 0, 1) := by decide +kernel
theorem dX5_readPage_67 : decode cX5_readPage 67 = .ok (.getfield 22, 3) := by decide +kernel
theorem dX5_readPage_70 : decode cX5_readPage 70 = .ok (.iload_n 2, 1) := by decide +kernel
theorem dX5_readPage_71 : decode cX5_readPage 71 = .ok (.iaload, 1) := by decide +kernel
theorem dX5_readPage_72 : decode cX5_readPage 72 = .ok (.invokevirtual 109, 3) := by decide +kernel
theorem dX5_readPage_75 : decode cX5_readPage 75 = .ok (.return_, 1) := by decide +kernel
theorem dX5_readPage_76 : decode cX5_readPage 76 = .ok (.iconst 0, 1) := by decide +kernel
theorem dX5_readPage_77 : decode cX5_readPage 77 = .ok (.istore_n 3, 1) := by decide +kernel
theorem dX5_readPage_78 : decode cX5_readPage 78 = .ok (.iload_n 3, 1) := by decide +kernel
theorem dX5_readPage_79 : decode cX5_readPage 79 = .ok (.aload_n 0, 1) := by decide +kernel
theorem dX5_readPage_80 : decode cX5_readPage 80 = .ok (.getfield 50, 3) := by decide +kernel
theorem dX5_readPage_83 : decode cX5_readPage 83 = .ok (.getfield 112, 3) := by decide +kernel
theorem dX5_readPage_86 : decode cX5_readPage 86 = .ok (.if_icmp .ge 26, 3) := by decide +kernel
theorem dX5_readPage_89 : decode cX5_readPage 89 = .ok (.aload_n 0, 1) := by decide +kernel
theorem dX5_readPage_90 : decode cX5_readPage 90 = .ok (.iload_n 3, 1) := by decide +kernel
theorem dX5_readPage_91 : decode cX5_readPage 91 = .ok (.aload_n 0, 1) := by decide +kernel
theorem dX5_readPage_92 : decode cX5_readPage 92 = .ok (.getfield 18, 3) := by decide +kernel
theorem dX5_readPage_95 : decode cX5_readPage 95 = .ok (.iload_n 2, 1) := by decide +kernel
theorem dX5_readPage_96 : decode cX5_readPage 96 = .ok (.iaload, 1) := by decide +kernel
theorem dX5_readPage_97 : decode cX5_readPage 97 = .ok (.aload_n 0, 1) := by decide +kernel
theorem dX5_readPage_98 : decode cX5_readPage 98 = .ok (.getfield 22, 3) := by decide +kernel
theorem dX5_readPage_101 : decode cX5_readPage 101 = .ok (.iload_n 2, 1) := by decide +kernel
theorem dX5_readPage_102 : decode cX5_readPage 102 = .ok (.iaload, 1) := by decide +kernel
theorem dX5_readPage_103 : decode cX5_readPage 103 = .ok (.invokevirtual 109, 3) := by decide +kernel
theorem dX5_readPage_106 : decode cX5_readPage 106 = .ok (.iinc 3 1, 3) := by decide +kernel
theorem dX5_readPage_109 : decode cX5_readPage 109 = .ok (.goto (-31), 3) := by decide +kernel
theorem dX5_readPage_112 : decode cX5_readPage 112 = .ok (.return_, 1) := by decide +kernel
theorem dX5_addPage_0 : decode cX5_addPage 0 = .ok (.aload_n 0, 1) := by decide +kernel
theorem dX5_addPage_1 : decode cX5_addPage 1 = .ok (.invokevirtual 115, 3) := by decide +kernel
theorem dX5_addPage_4 : decode cX5_addPage 4 = .ok (.ifCond .eq 6, 3) := by decide +kernel
theorem dX5_addPage_7 : decode cX5_addPage 7 = .ok (.ldc 119, 2) := by decide +kernel
theorem dX5_addPage_9 : decode cX5_addPage 9 = .ok (.ireturn, 1) := by decide +kernel
theorem dX5_addPage_10 : decode cX5_addPage 10 = .ok (.aload_n 0, 1) := by decide +kernel
theorem dX5_addPage_11 : decode cX5_addPage 11 = .ok (.getfield 40, 3) := by decide +kernel
theorem dX5_addPage_14 : decode cX5_addPage 14 = .ok (.istore 4, 2) := by decide +kernel
theorem dX5_addPage_16 : decode cX5_addPage 16 = .ok (.aload_n 0, 1) := by decide +kernel
theorem dX5_addPage_17 : decode cX5_addPage 17 = .ok (.getfield 18, 3) := by decide +kernel
theorem dX5_addPage_20 : decode cX5_addPage 20 = .ok (.iload 4, 2) := by decide +kernel
theorem dX5_addPage_22 : decode cX5_addPage 22 = .ok (.iload_n 1, 1) := by decide +kernel
theorem dX5_addPage_23 : decode cX5_addPage 23 = .ok (.iastore, 1) := by decide +kernel
theorem dX5_addPage_24 : decode cX5_addPage 24 = .ok (.aload_n 0, 1) := by decide +kernel
theorem dX5_addPage_25 : decode cX5_addPage 25 = .ok (.getfield 22, 3) := by decide +kernel
theorem dX5_addPage_28 : decode cX5_addPage 28 = .ok (.iload 4, 2) := by decide +kernel
theorem dX5_addPage_30 : decode cX5_addPage 30 = .ok (.aload_n 0, 1) := by decide +kernel
theorem dX5_addPage_31 : decode cX5_addPage 31 = .ok (.bipush 100, 2) := by decide +kernel
theorem dX5_addPage_33 : decode cX5_addPage 33 = .ok (.invokevirtual 120, 3) := by decide +kernel
theorem dX5_addPage_36 : decode cX5_addPage 36 = .ok (.aload_n 0, 1) := by decide +kernel
theorem dX5_addPage_37 : decode cX5_addPage 37 = .ok (.getfield 50, 3) := by decide +kernel
theorem dX5_addPage_40 : decode cX5_addPage 40 = .ok (.getfield 124, 3) := by decide +kernel
theorem dX5_addPage_43 : decode cX5_addPage 43 = .ok (.if_icmp .ge 10, 3) := by decide +kernel
theorem dX5_addPage_46 : decode cX5_addPage 46 = .ok (.iload 4, 2) := by decide +kernel
theorem dX5_addPage_48 : decode cX5_addPage 48 = .ok (.iconst 1, 1) := by decide +kernel
theorem dX5_addPage_49 : decode cX5_addPage 49 = .ok (.iadd, 1) := by decide +kernel
theorem dX5_addPage_50 : decode cX5_addPage 50 = .ok (.goto 4, 3) := by decide +kernel
theorem dX5_addPage_53 : decode cX5_addPage 53 = .ok (.iload_n 2, 1) := by decide +kernel
theorem dX5_addPage_54 : decode cX5_addPage 54 = .ok (.iastore, 1) := by decide +kernel
theorem dX5_addPage_55 : decode cX5_addPage 55 = .ok (.aload_n 0, 1) := by decide +kernel
theorem dX5_addPage_56 : decode cX5_addPage 56 = .ok (.getfield 25, 3) := by decide +kernel
theorem dX5_addPage_59 : decode cX5_addPage 59 = .ok (.iload 4, 2) := by decide +kernel
theorem dX5_addPage_61 : decode cX5_addPage 61 = .ok (.iconst 0, 1) := by decide +kernel
theorem dX5_addPage_62 : decode cX5_addPage 62 = .ok (.iastore, 1) := by decide +kernel
theorem dX5_addPage_63 : decode cX5_addPage 63 = .ok (.aload_n 0, 1) := by decide +kernel
theorem dX5_addPage_64 : decode cX5_addPage 64 = .ok (.getfield 28, 3) := by decide +kernel
theorem dX5_addPage_67 : decode cX5_addPage 67 = .ok (.iload 4, 2) := by decide +kernel
theorem dX5_addPage_69 : decode cX5_addPage 69 = .ok (.iload_n 3, 1) := by decide +kernel
theorem dX5_addPage_70 : decode cX5_addPage 70 = .ok (.iastore, 1) := by decide +kernel
theorem dX5_addPage_71 : decode cX5_addPage 71 = .ok (.aload_n 0, 1) := by decide +kernel
theorem dX5_addPage_72 : decode cX5_addPage 72 = .ok (.dup, 1) := by decide +kernel
theorem dX5_addPage_73 : decode cX5_addPage 73 = .ok (.getfield 40, 3) := by decide +kernel
theorem dX5_addPage_76 : decode cX5_addPage 76 = .ok (.iconst 1, 1) := by decide +kernel
theorem dX5_addPage_77 : decode cX5_addPage 77 = .ok (.iadd, 1) := by decide +kernel
theorem dX5_addPage_78 : decode cX5_addPage 78 = .ok (.putfield 40, 3) := by decide +kernel
theorem dX5_addPage_81 : decode cX5_addPage 81 = .ok (.iload 4, 2) := by decide +kernel
theorem dX5_addPage_83 : decode cX5_addPage 83 = .ok (.ireturn, 1) := by decide +kernel
theorem dX5_draw_0 : decode cX5_draw 0 = .ok (.aload_n 0, 1) := by decide +kernel
theorem dX5_draw_1 : decode cX5_draw 1 = .ok (.aload_n 0, 1) := by decide +kernel
theorem dX5_draw_2 : decode cX5_draw 2 = .ok (.getfield 47, 3) := by decide +kernel
theorem dX5_draw_5 : decode cX5_draw 5 = .ok (.ldc 127, 2) := by decide +kernel
theorem dX5_draw_7 : decode cX5_draw 7 = .ok (.imul, 1) := by decide +kernel
theorem dX5_draw_8 : decode cX5_draw 8 = .ok (.sipush 12345, 3) := by decide +kernel
theorem dX5_draw_11 : decode cX5_draw 11 = .ok (.iadd, 1) := by decide +kernel
theorem dX5_draw_12 : decode cX5_draw 12 = .ok (.ldc 130, 2) := by decide +kernel
theorem dX5_draw_14 : decode cX5_draw 14 = .ok (.iand, 1) := by decide +kernel
theorem dX5_draw_15 : decode cX5_draw 15 = .ok (.putfield 47, 3) := by decide +kernel
theorem dX5_draw_18 : decode cX5_draw 18 = .ok (.iload_n 1, 1) := by decide +kernel
theorem dX5_draw_19 : decode cX5_draw 19 = .ok (.ifCond .le 15, 3) := by decide +kernel
theorem dX5_draw_22 : decode cX5_draw 22 = .ok (.aload_n 0, 1) := by decide +kernel
theorem dX5_draw_23 : decode cX5_draw 23 = .ok (.getfield 47, 3) := by decide +kernel
theorem dX5_draw_26 : decode cX5_draw 26 = .ok (.ldc 131, 2) := by decide +kernel
theorem dX5_draw_28 : decode cX5_draw 28 = .ok (.idiv, 1) := by decide +kernel
theorem dX5_draw_29 : decode cX5_draw 29 = .ok (.iload_n 1, 1) := by decide +kernel
theorem dX5_draw_30 : decode cX5_draw 30 = .ok (.irem, 1) := by decide +kernel
theorem dX5_draw_31 : decode cX5_draw 31 = .ok (.goto 4, 3) := by decide +kernel
theorem dX5_draw_34 : decode cX5_draw 34 = .ok (.iconst 0, 1) := by decide +kernel
theorem dX5_draw_35 : decode cX5_draw 35 = .ok (.ireturn, 1) := by decide +kernel
theorem dX5_daysAhead_0 : decode cX5_daysAhead 0 = .ok (.iload_n 1, 1) := by decide +kernel
theorem dX5_daysAhead_1 : decode cX5_daysAhead 1 = .ok (.sipush 9999, 3) := by decide +kernel
theorem dX5_daysAhead_4 : decode cX5_daysAhead 4 = .ok (.aload_n 0, 1) := by decide +kernel
theorem dX5_daysAhead_5 : decode cX5_daysAhead 5 = .ok (.getfield 44, 3) := by decide +kernel
theorem dX5_daysAhead_8 : decode cX5_daysAhead 8 = .ok (.isub, 1) := by decide +kernel
theorem dX5_daysAhead_9 : decode cX5_daysAhead 9 = .ok (.invokestatic 132, 3) := by decide +kernel
theorem dX5_daysAhead_12 : decode cX5_daysAhead 12 = .ok (.ireturn, 1) := by decide +kernel
theorem dX5_passDusks_0 : decode cX5_passDusks 0 = .ok (.aload_n 0, 1) := by decide +kernel
theorem dX5_passDusks_1 : decode cX5_passDusks 1 = .ok (.dup, 1) := by decide +kernel
theorem dX5_passDusks_2 : decode cX5_passDusks 2 = .ok (.getfield 44, 3) := by decide +kernel
theorem dX5_passDusks_5 : decode cX5_passDusks 5 = .ok (.aload_n 0, 1) := by decide +kernel
theorem dX5_passDusks_6 : decode cX5_passDusks 6 = .ok (.iload_n 1, 1) := by decide +kernel
theorem dX5_passDusks_7 : decode cX5_passDusks 7 = .ok (.invokevirtual 137, 3) := by decide +kernel
theorem dX5_passDusks_10 : decode cX5_passDusks 10 = .ok (.iadd, 1) := by decide +kernel
theorem dX5_passDusks_11 : decode cX5_passDusks 11 = .ok (.putfield 44, 3) := by decide +kernel
theorem dX5_passDusks_14 : decode cX5_passDusks 14 = .ok (.return_, 1) := by decide +kernel
theorem dX5_liveByDraws_0 : decode cX5_liveByDraws 0 = .ok (.aload_n 0, 1) := by decide +kernel
theorem dX5_liveByDraws_1 : decode cX5_liveByDraws 1 = .ok (.iload_n 1, 1) := by decide +kernel
theorem dX5_liveByDraws_2 : decode cX5_liveByDraws 2 = .ok (.invokevirtual 137, 3) := by decide +kernel
theorem dX5_liveByDraws_5 : decode cX5_liveByDraws 5 = .ok (.istore_n 2, 1) := by decide +kernel
theorem dX5_liveByDraws_6 : decode cX5_liveByDraws 6 = .ok (.iconst 0, 1) := by decide +kernel
theorem dX5_liveByDraws_7 : decode cX5_liveByDraws 7 = .ok (.istore_n 3, 1) := by decide +kernel
theorem dX5_liveByDraws_8 : decode cX5_liveByDraws 8 = .ok (.iload_n 3, 1) := by decide +kernel
theorem dX5_liveByDraws_9 : decode cX5_liveByDraws 9 = .ok (.iload_n 2, 1) := by decide +kernel
theorem dX5_liveByDraws_10 : decode cX5_liveByDraws 10 = .ok (.if_icmp .ge 71, 3) := by decide +kernel
theorem dX5_liveByDraws_13 : decode cX5_liveByDraws 13 = .ok (.iconst 0, 1) := by decide +kernel
theorem dX5_liveByDraws_14 : decode cX5_liveByDraws 14 = .ok (.istore 4, 2) := by decide +kernel
theorem dX5_liveByDraws_16 : decode cX5_liveByDraws 16 = .ok (.iload 4, 2) := by decide +kernel
theorem dX5_liveByDraws_18 : decode cX5_liveByDraws 18 = .ok (.aload_n 0, 1) := by decide +kernel
theorem dX5_liveByDraws_19 : decode cX5_liveByDraws 19 = .ok (.getfield 50, 3) := by decide +kernel
theorem dX5_liveByDraws_22 : decode cX5_liveByDraws 22 = .ok (.getfield 112, 3) := by decide +kernel
theorem dX5_liveByDraws_25 : decode cX5_liveByDraws 25 = .ok (.if_icmp .ge 45, 3) := by decide +kernel
theorem dX5_liveByDraws_28 : decode cX5_liveByDraws 28 = .ok (.aload_n 0, 1) := by decide +kernel
theorem dX5_liveByDraws_29 : decode cX5_liveByDraws 29 = .ok (.aload_n 0, 1) := by decide +kernel
theorem dX5_liveByDraws_30 : decode cX5_liveByDraws 30 = .ok (.getfield 40, 3) := by decide +kernel
theorem dX5_liveByDraws_33 : decode cX5_liveByDraws 33 = .ok (.invokevirtual 120, 3) := by decide +kernel
theorem dX5_liveByDraws_36 : decode cX5_liveByDraws 36 = .ok (.istore 5, 2) := by decide +kernel
theorem dX5_liveByDraws_38 : decode cX5_liveByDraws 38 = .ok (.aload_n 0, 1) := by decide +kernel
theorem dX5_liveByDraws_39 : decode cX5_liveByDraws 39 = .ok (.iload 5, 2) := by decide +kernel
theorem dX5_liveByDraws_41 : decode cX5_liveByDraws 41 = .ok (.invokevirtual 140, 3) := by decide +kernel
theorem dX5_liveByDraws_44 : decode cX5_liveByDraws 44 = .ok (.ifCond .eq 20, 3) := by decide +kernel
theorem dX5_liveByDraws_47 : decode cX5_liveByDraws 47 = .ok (.aload_n 0, 1) := by decide +kernel
theorem dX5_liveByDraws_48 : decode cX5_liveByDraws 48 = .ok (.iload 5, 2) := by decide +kernel
theorem dX5_liveByDraws_50 : decode cX5_liveByDraws 50 = .ok (.invokevirtual 144, 3) := by decide +kernel
theorem dX5_liveByDraws_53 : decode cX5_liveByDraws 53 = .ok (.ifCond .ne 11, 3) := by decide +kernel
theorem dX5_liveByDraws_56 : decode cX5_liveByDraws 56 = .ok (.aload_n 0, 1) := by decide +kernel
theorem dX5_liveByDraws_57 : decode cX5_liveByDraws 57 = .ok (.iload 4, 2) := by decide +kernel
theorem dX5_liveByDraws_59 : decode cX5_liveByDraws 59 = .ok (.iload 5, 2) := by decide +kernel
theorem dX5_liveByDraws_61 : decode cX5_liveByDraws 61 = .ok (.invokevirtual 147, 3) := by decide +kernel
theorem dX5_liveByDraws_64 : decode cX5_liveByDraws 64 = .ok (.iinc 4 1, 3) := by decide +kernel
theorem dX5_liveByDraws_67 : decode cX5_liveByDraws 67 = .ok (.goto (-51), 3) := by decide +kernel
theorem dX5_liveByDraws_70 : decode cX5_liveByDraws 70 = .ok (.aload_n 0, 1) := by decide +kernel
theorem dX5_liveByDraws_71 : decode cX5_liveByDraws 71 = .ok (.iconst 1, 1) := by decide +kernel
theorem dX5_liveByDraws_72 : decode cX5_liveByDraws 72 = .ok (.invokevirtual 151, 3) := by decide +kernel
theorem dX5_liveByDraws_75 : decode cX5_liveByDraws 75 = .ok (.iinc 3 1, 3) := by decide +kernel
theorem dX5_liveByDraws_78 : decode cX5_liveByDraws 78 = .ok (.goto (-70), 3) := by decide +kernel
theorem dX5_liveByDraws_81 : decode cX5_liveByDraws 81 = .ok (.return_, 1) := by decide +kernel
theorem dX5_isKept_0 : decode cX5_isKept 0 = .ok (.aload_n 0, 1) := by decide +kernel
theorem dX5_isKept_1 : decode cX5_isKept 1 = .ok (.iload_n 1, 1) := by decide +kernel
theorem dX5_isKept_2 : decode cX5_isKept 2 = .ok (.invokevirtual 155, 3) := by decide +kernel
theorem dX5_isKept_5 : decode cX5_isKept 5 = .ok (.ifCond .le 5, 3) := by decide +kernel
theorem dX5_isKept_8 : decode cX5_isKept 8 = .ok (.iconst 1, 1) := by decide +kernel
theorem dX5_isKept_9 : decode cX5_isKept 9 = .ok (.ireturn, 1) := by decide +kernel
theorem dX5_isKept_10 : decode cX5_isKept 10 = .ok (.aload_n 0, 1) := by decide +kernel
theorem dX5_isKept_11 : decode cX5_isKept 11 = .ok (.getfield 44, 3) := by decide +kernel
theorem dX5_isKept_14 : decode cX5_isKept 14 = .ok (.aload_n 0, 1) := by decide +kernel
theorem dX5_isKept_15 : decode cX5_isKept 15 = .ok (.iload_n 2, 1) := by decide +kernel
theorem dX5_isKept_16 : decode cX5_isKept 16 = .ok (.invokevirtual 137, 3) := by decide +kernel
theorem dX5_isKept_19 : decode cX5_isKept 19 = .ok (.iadd, 1) := by decide +kernel
theorem dX5_isKept_20 : decode cX5_isKept 20 = .ok (.istore_n 3, 1) := by decide +kernel
theorem dX5_isKept_21 : decode cX5_isKept 21 = .ok (.iconst 0, 1) := by decide +kernel
theorem dX5_isKept_22 : decode cX5_isKept 22 = .ok (.istore 4, 2) := by decide +kernel
theorem dX5_isKept_24 : decode cX5_isKept 24 = .ok (.iload 4, 2) := by decide +kernel
theorem dX5_isKept_26 : decode cX5_isKept 26 = .ok (.aload_n 0, 1) := by decide +kernel
theorem dX5_isKept_27 : decode cX5_isKept 27 = .ok (.getfield 50, 3) := by decide +kernel
theorem dX5_isKept_30 : decode cX5_isKept 30 = .ok (.getfield 112, 3) := by decide +kernel
theorem dX5_isKept_33 : decode cX5_isKept 33 = .ok (.if_icmp .ge 22, 3) := by decide +kernel
theorem dX5_isKept_36 : decode cX5_isKept 36 = .ok (.aload_n 0, 1) := by decide +kernel
theorem dX5_isKept_37 : decode cX5_isKept 37 = .ok (.iload 4, 2) := by decide +kernel
theorem dX5_isKept_39 : decode cX5_isKept 39 = .ok (.iload_n 1, 1) := by decide +kernel
theorem dX5_isKept_40 : decode cX5_isKept 40 = .ok (.iload_n 3, 1) := by decide +kernel
theorem dX5_isKept_41 : decode cX5_isKept 41 = .ok (.invokevirtual 95, 3) := by decide +kernel
theorem dX5_isKept_44 : decode cX5_isKept 44 = .ok (.ifCond .ne 5, 3) := by decide +kernel
theorem dX5_isKept_47 : decode cX5_isKept 47 = .ok (.iconst 1, 1) := by decide +kernel
theorem dX5_isKept_48 : decode cX5_isKept 48 = .ok (.ireturn, 1) := by decide +kernel
theorem dX5_isKept_49 : decode cX5_isKept 49 = .ok (.iinc 4 1, 3) := by decide +kernel
theorem dX5_isKept_52 : decode cX5_isKept 52 = .ok (.goto (-28), 3) := by decide +kernel
theorem dX5_isKept_55 : decode cX5_isKept 55 = .ok (.iconst 0, 1) := by decide +kernel
theorem dX5_isKept_56 : decode cX5_isKept 56 = .ok (.ireturn, 1) := by decide +kernel
theorem dX5_countKept_0 : decode cX5_countKept 0 = .ok (.iconst 0, 1) := by decide +kernel
theorem dX5_countKept_1 : decode cX5_countKept 1 = .ok (.istore_n 2, 1) := by decide +kernel
theorem dX5_countKept_2 : decode cX5_countKept 2 = .ok (.iconst 0, 1) := by decide +kernel
theorem dX5_countKept_3 : decode cX5_countKept 3 = .ok (.istore_n 3, 1) := by decide +kernel
theorem dX5_countKept_4 : decode cX5_countKept 4 = .ok (.iload_n 3, 1) := by decide +kernel
theorem dX5_countKept_5 : decode cX5_countKept 5 = .ok (.aload_n 0, 1) := by decide +kernel
theorem dX5_countKept_6 : decode cX5_countKept 6 = .ok (.getfield 50, 3) := by decide +kernel
theorem dX5_countKept_9 : decode cX5_countKept 9 = .ok (.getfield 60, 3) := by decide +kernel
theorem dX5_countKept_12 : decode cX5_countKept 12 = .ok (.if_icmp .ge 21, 3) := by decide +kernel
theorem dX5_countKept_15 : decode cX5_countKept 15 = .ok (.aload_n 0, 1) := by decide +kernel
theorem dX5_countKept_16 : decode cX5_countKept 16 = .ok (.iload_n 3, 1) := by decide +kernel
theorem dX5_countKept_17 : decode cX5_countKept 17 = .ok (.iload_n 1, 1) := by decide +kernel
theorem dX5_countKept_18 : decode cX5_countKept 18 = .ok (.invokevirtual 158, 3) := by decide +kernel
theorem dX5_countKept_21 : decode cX5_countKept 21 = .ok (.ifCond .eq 6, 3) := by decide +kernel
theorem dX5_countKept_24 : decode cX5_countKept 24 = .ok (.iinc 2 1, 3) := by decide +kernel
theorem dX5_countKept_27 : decode cX5_countKept 27 = .ok (.iinc 3 1, 3) := by decide +kernel
theorem dX5_countKept_30 : decode cX5_countKept 30 = .ok (.goto (-26), 3) := by decide +kernel
theorem dX5_countKept_33 : decode cX5_countKept 33 = .ok (.iload_n 2, 1) := by decide +kernel
theorem dX5_countKept_34 : decode cX5_countKept 34 = .ok (.ireturn, 1) := by decide +kernel
theorem dX5_countGone_0 : decode cX5_countGone 0 = .ok (.iconst 0, 1) := by decide +kernel
theorem dX5_countGone_1 : decode cX5_countGone 1 = .ok (.istore_n 1, 1) := by decide +kernel
theorem dX5_countGone_2 : decode cX5_countGone 2 = .ok (.iconst 0, 1) := by decide +kernel
theorem dX5_countGone_3 : decode cX5_countGone 3 = .ok (.istore_n 2, 1) := by decide +kernel
theorem dX5_countGone_4 : decode cX5_countGone 4 = .ok (.iload_n 2, 1) := by decide +kernel
theorem dX5_countGone_5 : decode cX5_countGone 5 = .ok (.aload_n 0, 1) := by decide +kernel
theorem dX5_countGone_6 : decode cX5_countGone 6 = .ok (.getfield 40, 3) := by decide +kernel
theorem dX5_countGone_9 : decode cX5_countGone 9 = .ok (.if_icmp .ge 20, 3) := by decide +kernel
theorem dX5_countGone_12 : decode cX5_countGone 12 = .ok (.aload_n 0, 1) := by decide +kernel
theorem dX5_countGone_13 : decode cX5_countGone 13 = .ok (.iload_n 2, 1) := by decide +kernel
theorem dX5_countGone_14 : decode cX5_countGone 14 = .ok (.invokevirtual 144, 3) := by decide +kernel
theorem dX5_countGone_17 : decode cX5_countGone 17 = .ok (.ifCond .eq 6, 3) := by decide +kernel
theorem dX5_countGone_20 : decode cX5_countGone 20 = .ok (.iinc 1 1, 3) := by decide +kernel
theorem dX5_countGone_23 : decode cX5_countGone 23 = .ok (.iinc 2 1, 3) := by decide +kernel
theorem dX5_countGone_26 : decode cX5_countGone 26 = .ok (.goto (-22), 3) := by decide +kernel
theorem dX5_countGone_29 : decode cX5_countGone 29 = .ok (.iload_n 1, 1) := by decide +kernel
theorem dX5_countGone_30 : decode cX5_countGone 30 = .ok (.ireturn, 1) := by decide +kernel
theorem dX5_isLeft_0 : decode cX5_isLeft 0 = .ok (.aload_n 0, 1) := by decide +kernel
theorem dX5_isLeft_1 : decode cX5_isLeft 1 = .ok (.getfield 18, 3) := by decide +kernel
theorem dX5_isLeft_4 : decode cX5_isLeft 4 = .ok (.iload_n 1, 1) := by decide +kernel
theorem dX5_isLeft_5 : decode cX5_isLeft 5 = .ok (.iaload, 1) := by decide +kernel
theorem dX5_isLeft_6 : decode cX5_isLeft 6 = .ok (.iload_n 2, 1) := by decide +kernel
theorem dX5_isLeft_7 : decode cX5_isLeft 7 = .ok (.if_icmp .ne 18, 3) := by decide +kernel
theorem dX5_isLeft_10 : decode cX5_isLeft 10 = .ok (.aload_n 0, 1) := by decide +kernel
theorem dX5_isLeft_11 : decode cX5_isLeft 11 = .ok (.getfield 25, 3) := by decide +kernel
theorem dX5_isLeft_14 : decode cX5_isLeft 14 = .ok (.iload_n 1, 1) := by decide +kernel
theorem dX5_isLeft_15 : decode cX5_isLeft 15 = .ok (.iaload, 1) := by decide +kernel
theorem dX5_isLeft_16 : decode cX5_isLeft 16 = .ok (.bipush 9, 2) := by decide +kernel
theorem dX5_isLeft_18 : decode cX5_isLeft 18 = .ok (.if_icmp .ge 7, 3) := by decide +kernel
theorem dX5_isLeft_21 : decode cX5_isLeft 21 = .ok (.iconst 1, 1) := by decide +kernel
theorem dX5_isLeft_22 : decode cX5_isLeft 22 = .ok (.goto 4, 3) := by decide +kernel
theorem dX5_isLeft_25 : decode cX5_isLeft 25 = .ok (.iconst 0, 1) := by decide +kernel
theorem dX5_isLeft_26 : decode cX5_isLeft 26 = .ok (.ireturn, 1) := by decide +kernel
theorem dX5_pagesLeft_0 : decode cX5_pagesLeft 0 = .ok (.iconst 0, 1) := by decide +kernel
theorem dX5_pagesLeft_1 : decode cX5_pagesLeft 1 = .ok (.istore_n 2, 1) := by decide +kernel
theorem dX5_pagesLeft_2 : decode cX5_pagesLeft 2 = .ok (.iconst 0, 1) := by decide +kernel
theorem dX5_pagesLeft_3 : decode cX5_pagesLeft 3 = .ok (.istore_n 3, 1) := by decide +kernel
theorem dX5_pagesLeft_4 : decode cX5_pagesLeft 4 = .ok (.iload_n 3, 1) := by decide +kernel
theorem dX5_pagesLeft_5 : decode cX5_pagesLeft 5 = .ok (.aload_n 0, 1) := by decide +kernel
theorem dX5_pagesLeft_6 : decode cX5_pagesLeft 6 = .ok (.getfield 40, 3) := by decide +kernel
theorem dX5_pagesLeft_9 : decode cX5_pagesLeft 9 = .ok (.if_icmp .ge 21, 3) := by decide +kernel
theorem dX5_pagesLeft_12 : decode cX5_pagesLeft 12 = .ok (.aload_n 0, 1) := by decide +kernel
theorem dX5_pagesLeft_13 : decode cX5_pagesLeft 13 = .ok (.iload_n 3, 1) := by decide +kernel
theorem dX5_pagesLeft_14 : decode cX5_pagesLeft 14 = .ok (.iload_n 1, 1) := by decide +kernel
theorem dX5_pagesLeft_15 : decode cX5_pagesLeft 15 = .ok (.invokevirtual 162, 3) := by decide +kernel
theorem dX5_pagesLeft_18 : decode cX5_pagesLeft 18 = .ok (.ifCond .eq 6, 3) := by decide +kernel
theorem dX5_pagesLeft_21 : decode cX5_pagesLeft 21 = .ok (.iinc 2 1, 3) := by decide +kernel
theorem dX5_pagesLeft_24 : decode cX5_pagesLeft 24 = .ok (.iinc 3 1, 3) := by decide +kernel
theorem dX5_pagesLeft_27 : decode cX5_pagesLeft 27 = .ok (.goto (-23), 3) := by decide +kernel
theorem dX5_pagesLeft_30 : decode cX5_pagesLeft 30 = .ok (.iload_n 2, 1) := by decide +kernel
theorem dX5_pagesLeft_31 : decode cX5_pagesLeft 31 = .ok (.ireturn, 1) := by decide +kernel
theorem dX5_pagesLeftWith_0 : decode cX5_pagesLeftWith 0 = .ok (.iconst 0, 1) := by decide +kernel
theorem dX5_pagesLeftWith_1 : decode cX5_pagesLeftWith 1 = .ok (.istore_n 3, 1) := by decide +kernel
theorem dX5_pagesLeftWith_2 : decode cX5_pagesLeftWith 2 = .ok (.iconst 0, 1) := by decide +kernel
theorem dX5_pagesLeftWith_3 : decode cX5_pagesLeftWith 3 = .ok (.istore 4, 2) := by decide +kernel
theorem dX5_pagesLeftWith_5 : decode cX5_pagesLeftWith 5 = .ok (.iload 4, 2) := by decide +kernel
theorem dX5_pagesLeftWith_7 : decode cX5_pagesLeftWith 7 = .ok (.aload_n 0, 1) := by decide +kernel
theorem dX5_pagesLeftWith_8 : decode cX5_pagesLeftWith 8 = .ok (.getfield 40, 3) := by decide +kernel
theorem dX5_pagesLeftWith_11 : decode cX5_pagesLeftWith 11 = .ok (.if_icmp .ge 33, 3) := by decide +kernel
theorem dX5_pagesLeftWith_14 : decode cX5_pagesLeftWith 14 = .ok (.aload_n 0, 1) := by decide +kernel
theorem dX5_pagesLeftWith_15 : decode cX5_pagesLeftWith 15 = .ok (.iload 4, 2) := by decide +kernel
theorem dX5_pagesLeftWith_17 : decode cX5_pagesLeftWith 17 = .ok (.iload_n 1, 1) := by decide +kernel
theorem dX5_pagesLeftWith_18 : decode cX5_pagesLeftWith 18 = .ok (.invokevirtual 162, 3) := by decide +kernel
theorem dX5_pagesLeftWith_21 : decode cX5_pagesLeftWith 21 = .ok (.ifCond .eq 17, 3) := by decide +kernel
theorem dX5_pagesLeftWith_24 : decode cX5_pagesLeftWith 24 = .ok (.aload_n 0, 1) := by decide +kernel
theorem dX5_pagesLeftWith_25 : decode cX5_pagesLeftWith 25 = .ok (.getfield 22, 3) := by decide +kernel
theorem dX5_pagesLeftWith_28 : decode cX5_pagesLeftWith 28 = .ok (.iload 4, 2) := by decide +kernel
theorem dX5_pagesLeftWith_30 : decode cX5_pagesLeftWith 30 = .ok (.iaload, 1) := by decide +kernel
theorem dX5_pagesLeftWith_31 : decode cX5_pagesLeftWith 31 = .ok (.iload_n 2, 1) := by decide +kernel
theorem dX5_pagesLeftWith_32 : decode cX5_pagesLeftWith 32 = .ok (.if_icmp .ne 6, 3) := by decide +kernel
theorem dX5_pagesLeftWith_35 : decode cX5_pagesLeftWith 35 = .ok (.iinc 3 1, 3) := by decide +kernel
theorem dX5_pagesLeftWith_38 : decode cX5_pagesLeftWith 38 = .ok (.iinc 4 1, 3) := by decide +kernel
theorem dX5_pagesLeftWith_41 : decode cX5_pagesLeftWith 41 = .ok (.goto (-36), 3) := by decide +kernel
theorem dX5_pagesLeftWith_44 : decode cX5_pagesLeftWith 44 = .ok (.iload_n 3, 1) := by decide +kernel
theorem dX5_pagesLeftWith_45 : decode cX5_pagesLeftWith 45 = .ok (.ireturn, 1) := by decide +kernel
theorem dX5_truePages_0 : decode cX5_truePages 0 = .ok (.aload_n 0, 1) := by decide +kernel
theorem dX5_truePages_1 : decode cX5_truePages 1 = .ok (.iload_n 1, 1) := by decide +kernel
theorem dX5_truePages_2 : decode cX5_truePages 2 = .ok (.iconst 0, 1) := by decide +kernel
theorem dX5_truePages_3 : decode cX5_truePages 3 = .ok (.invokevirtual 165, 3) := by decide +kernel
theorem dX5_truePages_6 : decode cX5_truePages 6 = .ok (.ireturn, 1) := by decide +kernel
theorem dX5_trueReadingsLeft_0 : decode cX5_trueReadingsLeft 0 = .ok (.iconst 0, 1) := by decide +kernel
theorem dX5_trueReadingsLeft_1 : decode cX5_trueReadingsLeft 1 = .ok (.istore_n 2, 1) := by decide +kernel
theorem dX5_trueReadingsLeft_2 : decode cX5_trueReadingsLeft 2 = .ok (.iconst 0, 1) := by decide +kernel
theorem dX5_trueReadingsLeft_3 : decode cX5_trueReadingsLeft 3 = .ok (.istore_n 3, 1) := by decide +kernel
theorem dX5_trueReadingsLeft_4 : decode cX5_trueReadingsLeft 4 = .ok (.iload_n 3, 1) := by decide +kernel
theorem dX5_trueReadingsLeft_5 : decode cX5_trueReadingsLeft 5 = .ok (.aload_n 0, 1) := by decide +kernel
theorem dX5_trueReadingsLeft_6 : decode cX5_trueReadingsLeft 6 = .ok (.getfield 40, 3) := by decide +kernel
theorem dX5_trueReadingsLeft_9 : decode cX5_trueReadingsLeft 9 = .ok (.if_icmp .ge 39, 3) := by decide +kernel
theorem dX5_trueReadingsLeft_12 : decode cX5_trueReadingsLeft 12 = .ok (.aload_n 0, 1) := by decide +kernel
theorem dX5_trueReadingsLeft_13 : decode cX5_trueReadingsLeft 13 = .ok (.iload_n 3, 1) := by decide +kernel
theorem dX5_trueReadingsLeft_14 : decode cX5_trueReadingsLeft 14 = .ok (.iload_n 1, 1) := by decide +kernel
theorem dX5_trueReadingsLeft_15 : decode cX5_trueReadingsLeft 15 = .ok (.invokevirtual 162, 3) := by decide +kernel
theorem dX5_trueReadingsLeft_18 : decode cX5_trueReadingsLeft 18 = .ok (.ifCond .eq 24, 3) := by decide +kernel
theorem dX5_trueReadingsLeft_21 : decode cX5_trueReadingsLeft 21 = .ok (.aload_n 0, 1) := by decide +kernel
theorem dX5_trueReadingsLeft_22 : decode cX5_trueReadingsLeft 22 = .ok (.getfield 22, 3) := by decide +kernel
theorem dX5_trueReadingsLeft_25 : decode cX5_trueReadingsLeft 25 = .ok (.iload_n 3, 1) := by decide +kernel
theorem dX5_trueReadingsLeft_26 : decode cX5_trueReadingsLeft 26 = .ok (.iaload, 1) := by decide +kernel
theorem dX5_trueReadingsLeft_27 : decode cX5_trueReadingsLeft 27 = .ok (.ifCond .ne 15, 3) := by decide +kernel
theorem dX5_trueReadingsLeft_30 : decode cX5_trueReadingsLeft 30 = .ok (.iload_n 2, 1) := by decide +kernel
theorem dX5_trueReadingsLeft_31 : decode cX5_trueReadingsLeft 31 = .ok (.bipush 9, 2) := by decide +kernel
theorem dX5_trueReadingsLeft_33 : decode cX5_trueReadingsLeft 33 = .ok (.aload_n 0, 1) := by decide +kernel
theorem dX5_trueReadingsLeft_34 : decode cX5_trueReadingsLeft 34 = .ok (.getfield 25, 3) := by decide +kernel
theorem dX5_trueReadingsLeft_37 : decode cX5_trueReadingsLeft 37 = .ok (.iload_n 3, 1) := by decide +kernel
theorem dX5_trueReadingsLeft_38 : decode cX5_trueReadingsLeft 38 = .ok (.iaload, 1) := by decide +kernel
theorem dX5_trueReadingsLeft_39 : decode cX5_trueReadingsLeft 39 = .ok (.isub, 1) := by decide +kernel
theorem dX5_trueReadingsLeft_40 : decode cX5_trueReadingsLeft 40 = .ok (.iadd, 1) := by decide +kernel
theorem dX5_trueReadingsLeft_41 : decode cX5_trueReadingsLeft 41 = .ok (.istore_n 2, 1) := by decide +kernel
theorem dX5_trueReadingsLeft_42 : decode cX5_trueReadingsLeft 42 = .ok (.iinc 3 1, 3) := by decide +kernel
theorem dX5_trueReadingsLeft_45 : decode cX5_trueReadingsLeft 45 = .ok (.goto (-41), 3) := by decide +kernel
theorem dX5_trueReadingsLeft_48 : decode cX5_trueReadingsLeft 48 = .ok (.iload_n 2, 1) := by decide +kernel
theorem dX5_trueReadingsLeft_49 : decode cX5_trueReadingsLeft 49 = .ok (.ireturn, 1) := by decide +kernel
theorem dX5_firstPage_0 : decode cX5_firstPage 0 = .ok (.iconst 0, 1) := by decide +kernel
theorem dX5_firstPage_1 : decode cX5_firstPage 1 = .ok (.istore_n 2, 1) := by decide +kernel
theorem dX5_firstPage_2 : decode cX5_firstPage 2 = .ok (.iload_n 2, 1) := by decide +kernel
theorem dX5_firstPage_3 : decode cX5_firstPage 3 = .ok (.aload_n 0, 1) := by decide +kernel
theorem dX5_firstPage_4 : decode cX5_firstPage 4 = .ok (.getfield 40, 3) := by decide +kernel
theorem dX5_firstPage_7 : decode cX5_firstPage 7 = .ok (.if_icmp .ge 20, 3) := by decide +kernel
theorem dX5_firstPage_10 : decode cX5_firstPage 10 = .ok (.aload_n 0, 1) := by decide +kernel
theorem dX5_firstPage_11 : decode cX5_firstPage 11 = .ok (.iload_n 2, 1) := by decide +kernel
theorem dX5_firstPage_12 : decode cX5_firstPage 12 = .ok (.iload_n 1, 1) := by decide +kernel
theorem dX5_firstPage_13 : decode cX5_firstPage 13 = .ok (.invokevirtual 162, 3) := by decide +kernel
theorem dX5_firstPage_16 : decode cX5_firstPage 16 = .ok (.ifCond .eq 5, 3) := by decide +kernel
theorem dX5_firstPage_19 : decode cX5_firstPage 19 = .ok (.iload_n 2, 1) := by decide +kernel
theorem dX5_firstPage_20 : decode cX5_firstPage 20 = .ok (.ireturn, 1) := by decide +kernel
theorem dX5_firstPage_21 : decode cX5_firstPage 21 = .ok (.iinc 2 1, 3) := by decide +kernel
theorem dX5_firstPage_24 : decode cX5_firstPage 24 = .ok (.goto (-22), 3) := by decide +kernel
theorem dX5_firstPage_27 : decode cX5_firstPage 27 = .ok (.iconst (-1), 1) := by decide +kernel
theorem dX5_firstPage_28 : decode cX5_firstPage 28 = .ok (.ireturn, 1) := by decide +kernel
theorem dX5_darkestPage_0 : decode cX5_darkestPage 0 = .ok (.iconst (-1), 1) := by decide +kernel
theorem dX5_darkestPage_1 : decode cX5_darkestPage 1 = .ok (.istore_n 2, 1) := by decide +kernel
theorem dX5_darkestPage_2 : decode cX5_darkestPage 2 = .ok (.iconst 0, 1) := by decide +kernel
theorem dX5_darkestPage_3 : decode cX5_darkestPage 3 = .ok (.istore_n 3, 1) := by decide +kernel
theorem dX5_darkestPage_4 : decode cX5_darkestPage 4 = .ok (.iload_n 3, 1) := by decide +kernel
theorem dX5_darkestPage_5 : decode cX5_darkestPage 5 = .ok (.aload_n 0, 1) := by decide +kernel
theorem dX5_darkestPage_6 : decode cX5_darkestPage 6 = .ok (.getfield 40, 3) := by decide +kernel
theorem dX5_darkestPage_9 : decode cX5_darkestPage 9 = .ok (.if_icmp .ge 40, 3) := by decide +kernel
theorem dX5_darkestPage_12 : decode cX5_darkestPage 12 = .ok (.aload_n 0, 1) := by decide +kernel
theorem dX5_darkestPage_13 : decode cX5_darkestPage 13 = .ok (.iload_n 3, 1) := by decide +kernel
theorem dX5_darkestPage_14 : decode cX5_darkestPage 14 = .ok (.iload_n 1, 1) := by decide +kernel
theorem dX5_darkestPage_15 : decode cX5_darkestPage 15 = .ok (.invokevirtual 162, 3) := by decide +kernel
theorem dX5_darkestPage_18 : decode cX5_darkestPage 18 = .ok (.ifCond .eq 25, 3) := by decide +kernel
theorem dX5_darkestPage_21 : decode cX5_darkestPage 21 = .ok (.iload_n 2, 1) := by decide +kernel
theorem dX5_darkestPage_22 : decode cX5_darkestPage 22 = .ok (.iconst (-1), 1) := by decide +kernel
theorem dX5_darkestPage_23 : decode cX5_darkestPage 23 = .ok (.if_icmp .eq 18, 3) := by decide +kernel
theorem dX5_darkestPage_26 : decode cX5_darkestPage 26 = .ok (.aload_n 0, 1) := by decide +kernel
theorem dX5_darkestPage_27 : decode cX5_darkestPage 27 = .ok (.getfield 25, 3) := by decide +kernel
theorem dX5_darkestPage_30 : decode cX5_darkestPage 30 = .ok (.iload_n 3, 1) := by decide +kernel
theorem dX5_darkestPage_31 : decode cX5_darkestPage 31 = .ok (.iaload, 1) := by decide +kernel
theorem dX5_darkestPage_32 : decode cX5_darkestPage 32 = .ok (.aload_n 0, 1) := by decide +kernel
theorem dX5_darkestPage_33 : decode cX5_darkestPage 33 = .ok (.getfield 25, 3) := by decide +kernel
theorem dX5_darkestPage_36 : decode cX5_darkestPage 36 = .ok (.iload_n 2, 1) := by decide +kernel
theorem dX5_darkestPage_37 : decode cX5_darkestPage 37 = .ok (.iaload, 1) := by decide +kernel
theorem dX5_darkestPage_38 : decode cX5_darkestPage 38 = .ok (.if_icmp .ge 5, 3) := by decide +kernel
theorem dX5_darkestPage_41 : decode cX5_darkestPage 41 = .ok (.iload_n 3, 1) := by decide +kernel
theorem dX5_darkestPage_42 : decode cX5_darkestPage 42 = .ok (.istore_n 2, 1) := by decide +kernel
theorem dX5_darkestPage_43 : decode cX5_darkestPage 43 = .ok (.iinc 3 1, 3) := by decide +kernel
theorem dX5_darkestPage_46 : decode cX5_darkestPage 46 = .ok (.goto (-42), 3) := by decide +kernel
theorem dX5_darkestPage_49 : decode cX5_darkestPage 49 = .ok (.iload_n 2, 1) := by decide +kernel
theorem dX5_darkestPage_50 : decode cX5_darkestPage 50 = .ok (.ireturn, 1) := by decide +kernel
theorem dX5_knowers_0 : decode cX5_knowers 0 = .ok (.iconst 0, 1) := by decide +kernel
theorem dX5_knowers_1 : decode cX5_knowers 1 = .ok (.istore_n 2, 1) := by decide +kernel
theorem dX5_knowers_2 : decode cX5_knowers 2 = .ok (.iconst 0, 1) := by decide +kernel
theorem dX5_knowers_3 : decode cX5_knowers 3 = .ok (.istore_n 3, 1) := by decide +kernel
theorem dX5_knowers_4 : decode cX5_knowers 4 = .ok (.iload_n 3, 1) := by decide +kernel
theorem dX5_knowers_5 : decode cX5_knowers 5 = .ok (.aload_n 0, 1) := by decide +kernel
theorem dX5_knowers_6 : decode cX5_knowers 6 = .ok (.getfield 50, 3) := by decide +kernel
theorem dX5_knowers_9 : decode cX5_knowers 9 = .ok (.getfield 112, 3) := by decide +kernel
theorem dX5_knowers_12 : decode cX5_knowers 12 = .ok (.if_icmp .ge 24, 3) := by decide +kernel
theorem dX5_knowers_15 : decode cX5_knowers 15 = .ok (.aload_n 0, 1) := by decide +kernel
theorem dX5_knowers_16 : decode cX5_knowers 16 = .ok (.iload_n 3, 1) := by decide +kernel
theorem dX5_knowers_17 : decode cX5_knowers 17 = .ok (.iload_n 1, 1) := by decide +kernel
theorem dX5_knowers_18 : decode cX5_knowers 18 = .ok (.invokevirtual 168, 3) := by decide +kernel
theorem dX5_knowers_21 : decode cX5_knowers 21 = .ok (.ifCond .eq 9, 3) := by decide +kernel
theorem dX5_knowers_24 : decode cX5_knowers 24 = .ok (.iload_n 2, 1) := by decide +kernel
theorem dX5_knowers_25 : decode cX5_knowers 25 = .ok (.iconst 1, 1) := by decide +kernel
theorem dX5_knowers_26 : decode cX5_knowers 26 = .ok (.iload_n 3, 1) := by decide +kernel
theorem dX5_knowers_27 : decode cX5_knowers 27 = .ok (.ishl, 1) := by decide +kernel
theorem dX5_knowers_28 : decode cX5_knowers 28 = .ok (.ior, 1) := by decide +kernel
theorem dX5_knowers_29 : decode cX5_knowers 29 = .ok (.istore_n 2, 1) := by decide +kernel
theorem dX5_knowers_30 : decode cX5_knowers 30 = .ok (.iinc 3 1, 3) := by decide +kernel
theorem dX5_knowers_33 : decode cX5_knowers 33 = .ok (.goto (-29), 3) := by decide +kernel
theorem dX5_knowers_36 : decode cX5_knowers 36 = .ok (.iload_n 2, 1) := by decide +kernel
theorem dX5_knowers_37 : decode cX5_knowers 37 = .ok (.ireturn, 1) := by decide +kernel
theorem dX5_knowersOf_0 : decode cX5_knowersOf 0 = .ok (.iconst 0, 1) := by decide +kernel
theorem dX5_knowersOf_1 : decode cX5_knowersOf 1 = .ok (.istore_n 3, 1) := by decide +kernel
theorem dX5_knowersOf_2 : decode cX5_knowersOf 2 = .ok (.iconst 0, 1) := by decide +kernel
theorem dX5_knowersOf_3 : decode cX5_knowersOf 3 = .ok (.istore 4, 2) := by decide +kernel
theorem dX5_knowersOf_5 : decode cX5_knowersOf 5 = .ok (.iload 4, 2) := by decide +kernel
theorem dX5_knowersOf_7 : decode cX5_knowersOf 7 = .ok (.aload_n 0, 1) := by decide +kernel
theorem dX5_knowersOf_8 : decode cX5_knowersOf 8 = .ok (.getfield 50, 3) := by decide +kernel
theorem dX5_knowersOf_11 : decode cX5_knowersOf 11 = .ok (.getfield 112, 3) := by decide +kernel
theorem dX5_knowersOf_14 : decode cX5_knowersOf 14 = .ok (.if_icmp .ge 27, 3) := by decide +kernel
theorem dX5_knowersOf_17 : decode cX5_knowersOf 17 = .ok (.aload_n 0, 1) := by decide +kernel
theorem dX5_knowersOf_18 : decode cX5_knowersOf 18 = .ok (.iload 4, 2) := by decide +kernel
theorem dX5_knowersOf_20 : decode cX5_knowersOf 20 = .ok (.iload_n 1, 1) := by decide +kernel
theorem dX5_knowersOf_21 : decode cX5_knowersOf 21 = .ok (.invokevirtual 99, 3) := by decide +kernel
theorem dX5_knowersOf_24 : decode cX5_knowersOf 24 = .ok (.iload_n 2, 1) := by decide +kernel
theorem dX5_knowersOf_25 : decode cX5_knowersOf 25 = .ok (.if_icmp .ne 10, 3) := by decide +kernel
theorem dX5_knowersOf_28 : decode cX5_knowersOf 28 = .ok (.iload_n 3, 1) := by decide +kernel
theorem dX5_knowersOf_29 : decode cX5_knowersOf 29 = .ok (.iconst 1, 1) := by decide +kernel
theorem dX5_knowersOf_30 : decode cX5_knowersOf 30 = .ok (.iload 4, 2) := by decide +kernel
theorem dX5_knowersOf_32 : decode cX5_knowersOf 32 = .ok (.ishl, 1) := by decide +kernel
theorem dX5_knowersOf_33 : decode cX5_knowersOf 33 = .ok (.ior, 1) := by decide +kernel
theorem dX5_knowersOf_34 : decode cX5_knowersOf 34 = .ok (.istore_n 3, 1) := by decide +kernel
theorem dX5_knowersOf_35 : decode cX5_knowersOf 35 = .ok (.iinc 4 1, 3) := by decide +kernel
theorem dX5_knowersOf_38 : decode cX5_knowersOf 38 = .ok (.goto (-33), 3) := by decide +kernel
theorem dX5_knowersOf_41 : decode cX5_knowersOf 41 = .ok (.iload_n 3, 1) := by decide +kernel
theorem dX5_knowersOf_42 : decode cX5_knowersOf 42 = .ok (.ireturn, 1) := by decide +kernel
theorem dX5_trueKnowers_0 : decode cX5_trueKnowers 0 = .ok (.aload_n 0, 1) := by decide +kernel
theorem dX5_trueKnowers_1 : decode cX5_trueKnowers 1 = .ok (.iload_n 1, 1) := by decide +kernel
theorem dX5_trueKnowers_2 : decode cX5_trueKnowers 2 = .ok (.iconst 0, 1) := by decide +kernel
theorem dX5_trueKnowers_3 : decode cX5_trueKnowers 3 = .ok (.invokevirtual 171, 3) := by decide +kernel
theorem dX5_trueKnowers_6 : decode cX5_trueKnowers 6 = .ok (.ireturn, 1) := by decide +kernel
theorem dX5_linesKnown_0 : decode cX5_linesKnown 0 = .ok (.iconst 0, 1) := by decide +kernel
theorem dX5_linesKnown_1 : decode cX5_linesKnown 1 = .ok (.istore_n 2, 1) := by decide +kernel
theorem dX5_linesKnown_2 : decode cX5_linesKnown 2 = .ok (.iconst 0, 1) := by decide +kernel
theorem dX5_linesKnown_3 : decode cX5_linesKnown 3 = .ok (.istore_n 3, 1) := by decide +kernel
theorem dX5_linesKnown_4 : decode cX5_linesKnown 4 = .ok (.iload_n 3, 1) := by decide +kernel
theorem dX5_linesKnown_5 : decode cX5_linesKnown 5 = .ok (.aload_n 0, 1) := by decide +kernel
theorem dX5_linesKnown_6 : decode cX5_linesKnown 6 = .ok (.getfield 50, 3) := by decide +kernel
theorem dX5_linesKnown_9 : decode cX5_linesKnown 9 = .ok (.getfield 60, 3) := by decide +kernel
theorem dX5_linesKnown_12 : decode cX5_linesKnown 12 = .ok (.if_icmp .ge 21, 3) := by decide +kernel
theorem dX5_linesKnown_15 : decode cX5_linesKnown 15 = .ok (.aload_n 0, 1) := by decide +kernel
theorem dX5_linesKnown_16 : decode cX5_linesKnown 16 = .ok (.iload_n 1, 1) := by decide +kernel
theorem dX5_linesKnown_17 : decode cX5_linesKnown 17 = .ok (.iload_n 3, 1) := by decide +kernel
theorem dX5_linesKnown_18 : decode cX5_linesKnown 18 = .ok (.invokevirtual 168, 3) := by decide +kernel
theorem dX5_linesKnown_21 : decode cX5_linesKnown 21 = .ok (.ifCond .eq 6, 3) := by decide +kernel
theorem dX5_linesKnown_24 : decode cX5_linesKnown 24 = .ok (.iinc 2 1, 3) := by decide +kernel
theorem dX5_linesKnown_27 : decode cX5_linesKnown 27 = .ok (.iinc 3 1, 3) := by decide +kernel
theorem dX5_linesKnown_30 : decode cX5_linesKnown 30 = .ok (.goto (-26), 3) := by decide +kernel
theorem dX5_linesKnown_33 : decode cX5_linesKnown 33 = .ok (.iload_n 2, 1) := by decide +kernel
theorem dX5_linesKnown_34 : decode cX5_linesKnown 34 = .ok (.ireturn, 1) := by decide +kernel
theorem dX5_voteOn_0 : decode cX5_voteOn 0 = .ok (.aload_n 0, 1) := by decide +kernel
theorem dX5_voteOn_1 : decode cX5_voteOn 1 = .ok (.iload_n 1, 1) := by decide +kernel
theorem dX5_voteOn_2 : decode cX5_voteOn 2 = .ok (.invokevirtual 174, 3) := by decide +kernel
theorem dX5_voteOn_5 : decode cX5_voteOn 5 = .ok (.aload_n 0, 1) := by decide +kernel
theorem dX5_voteOn_6 : decode cX5_voteOn 6 = .ok (.iload_n 1, 1) := by decide +kernel
theorem dX5_voteOn_7 : decode cX5_voteOn 7 = .ok (.invokevirtual 177, 3) := by decide +kernel
theorem dX5_voteOn_10 : decode cX5_voteOn 10 = .ok (.invokestatic 180, 3) := by decide +kernel
theorem dX5_voteOn_13 : decode cX5_voteOn 13 = .ok (.iadd, 1) := by decide +kernel
theorem dX5_voteOn_14 : decode cX5_voteOn 14 = .ok (.istore_n 2, 1) := by decide +kernel
theorem dX5_voteOn_15 : decode cX5_voteOn 15 = .ok (.iconst 0, 1) := by decide +kernel
theorem dX5_voteOn_16 : decode cX5_voteOn 16 = .ok (.istore_n 3, 1) := by decide +kernel
theorem dX5_voteOn_17 : decode cX5_voteOn 17 = .ok (.iload_n 3, 1) := by decide +kernel
theorem dX5_voteOn_18 : decode cX5_voteOn 18 = .ok (.aload_n 0, 1) := by decide +kernel
theorem dX5_voteOn_19 : decode cX5_voteOn 19 = .ok (.getfield 40, 3) := by decide +kernel
theorem dX5_voteOn_22 : decode cX5_voteOn 22 = .ok (.if_icmp .gt 37, 3) := by decide +kernel
theorem dX5_voteOn_25 : decode cX5_voteOn 25 = .ok (.aload_n 0, 1) := by decide +kernel
theorem dX5_voteOn_26 : decode cX5_voteOn 26 = .ok (.iload_n 1, 1) := by decide +kernel
theorem dX5_voteOn_27 : decode cX5_voteOn 27 = .ok (.iload_n 3, 1) := by decide +kernel
theorem dX5_voteOn_28 : decode cX5_voteOn 28 = .ok (.invokevirtual 165, 3) := by decide +kernel
theorem dX5_voteOn_31 : decode cX5_voteOn 31 = .ok (.aload_n 0, 1) := by decide +kernel
theorem dX5_voteOn_32 : decode cX5_voteOn 32 = .ok (.iload_n 1, 1) := by decide +kernel
theorem dX5_voteOn_33 : decode cX5_voteOn 33 = .ok (.iload_n 3, 1) := by decide +kernel
theorem dX5_voteOn_34 : decode cX5_voteOn 34 = .ok (.invokevirtual 171, 3) := by decide +kernel
theorem dX5_voteOn_37 : decode cX5_voteOn 37 = .ok (.invokestatic 180, 3) := by decide +kernel
theorem dX5_voteOn_40 : decode cX5_voteOn 40 = .ok (.iadd, 1) := by decide +kernel
theorem dX5_voteOn_41 : decode cX5_voteOn 41 = .ok (.istore 4, 2) := by decide +kernel
theorem dX5_voteOn_43 : decode cX5_voteOn 43 = .ok (.iload 4, 2) := by decide +kernel
theorem dX5_voteOn_45 : decode cX5_voteOn 45 = .ok (.iconst 2, 1) := by decide +kernel
theorem dX5_voteOn_46 : decode cX5_voteOn 46 = .ok (.imul, 1) := by decide +kernel
theorem dX5_voteOn_47 : decode cX5_voteOn 47 = .ok (.iload_n 2, 1) := by decide +kernel
theorem dX5_voteOn_48 : decode cX5_voteOn 48 = .ok (.if_icmp .le 5, 3) := by decide +kernel
theorem dX5_voteOn_51 : decode cX5_voteOn 51 = .ok (.iload_n 3, 1) := by decide +kernel
theorem dX5_voteOn_52 : decode cX5_voteOn 52 = .ok (.ireturn, 1) := by decide +kernel
theorem dX5_voteOn_53 : decode cX5_voteOn 53 = .ok (.iinc 3 1, 3) := by decide +kernel
theorem dX5_voteOn_56 : decode cX5_voteOn 56 = .ok (.goto (-39), 3) := by decide +kernel
theorem dX5_voteOn_59 : decode cX5_voteOn 59 = .ok (.iconst (-1), 1) := by decide +kernel
theorem dX5_voteOn_60 : decode cX5_voteOn 60 = .ok (.ireturn, 1) := by decide +kernel
theorem dX5_canBeCopied_0 : decode cX5_canBeCopied 0 = .ok (.iconst 0, 1) := by decide +kernel
theorem dX5_canBeCopied_1 : decode cX5_canBeCopied 1 = .ok (.istore 4, 2) := by decide +kernel
theorem dX5_canBeCopied_3 : decode cX5_canBeCopied 3 = .ok (.iload 4, 2) := by decide +kernel
theorem dX5_canBeCopied_5 : decode cX5_canBeCopied 5 = .ok (.aload_n 0, 1) := by decide +kernel
theorem dX5_canBeCopied_6 : decode cX5_canBeCopied 6 = .ok (.getfield 12, 3) := by decide +kernel
theorem dX5_canBeCopied_9 : decode cX5_canBeCopied 9 = .ok (.getfield 68, 3) := by decide +kernel
theorem dX5_canBeCopied_12 : decode cX5_canBeCopied 12 = .ok (.if_icmp .ge 96, 3) := by decide +kernel
theorem dX5_canBeCopied_15 : decode cX5_canBeCopied 15 = .ok (.aload_n 0, 1) := by decide +kernel
theorem dX5_canBeCopied_16 : decode cX5_canBeCopied 16 = .ok (.getfield 12, 3) := by decide +kernel
theorem dX5_canBeCopied_19 : decode cX5_canBeCopied 19 = .ok (.getfield 183, 3) := by decide +kernel
theorem dX5_canBeCopied_22 : decode cX5_canBeCopied 22 = .ok (.iload 4, 2) := by decide +kernel
theorem dX5_canBeCopied_24 : decode cX5_canBeCopied 24 = .ok (.iaload, 1) := by decide +kernel
theorem dX5_canBeCopied_25 : decode cX5_canBeCopied 25 = .ok (.istore 5, 2) := by decide +kernel
theorem dX5_canBeCopied_27 : decode cX5_canBeCopied 27 = .ok (.aload_n 0, 1) := by decide +kernel
theorem dX5_canBeCopied_28 : decode cX5_canBeCopied 28 = .ok (.getfield 12, 3) := by decide +kernel
theorem dX5_canBeCopied_31 : decode cX5_canBeCopied 31 = .ok (.getfield 185, 3) := by decide +kernel
theorem dX5_canBeCopied_34 : decode cX5_canBeCopied 34 = .ok (.iload 4, 2) := by decide +kernel
theorem dX5_canBeCopied_36 : decode cX5_canBeCopied 36 = .ok (.iaload, 1) := by decide +kernel
theorem dX5_canBeCopied_37 : decode cX5_canBeCopied 37 = .ok (.iload_n 3, 1) := by decide +kernel
theorem dX5_canBeCopied_38 : decode cX5_canBeCopied 38 = .ok (.if_icmp .ne 40, 3) := by decide +kernel
theorem dX5_canBeCopied_41 : decode cX5_canBeCopied 41 = .ok (.aload_n 0, 1) := by decide +kernel
theorem dX5_canBeCopied_42 : decode cX5_canBeCopied 42 = .ok (.getfield 18, 3) := by decide +kernel
theorem dX5_canBeCopied_45 : decode cX5_canBeCopied 45 = .ok (.iload 5, 2) := by decide +kernel
theorem dX5_canBeCopied_47 : decode cX5_canBeCopied 47 = .ok (.iaload, 1) := by decide +kernel
theorem dX5_canBeCopied_48 : decode cX5_canBeCopied 48 = .ok (.iload_n 1, 1) := by decide +kernel
theorem dX5_canBeCopied_49 : decode cX5_canBeCopied 49 = .ok (.if_icmp .ne 29, 3) := by decide +kernel
theorem dX5_canBeCopied_52 : decode cX5_canBeCopied 52 = .ok (.aload_n 0, 1) := by decide +kernel
theorem dX5_canBeCopied_53 : decode cX5_canBeCopied 53 = .ok (.getfield 50, 3) := by decide +kernel
theorem dX5_canBeCopied_56 : decode cX5_canBeCopied 56 = .ok (.getfield 106, 3) := by decide +kernel
theorem dX5_canBeCopied_59 : decode cX5_canBeCopied 59 = .ok (.aload_n 0, 1) := by decide +kernel
theorem dX5_canBeCopied_60 : decode cX5_canBeCopied 60 = .ok (.getfield 12, 3) := by decide +kernel
theorem dX5_canBeCopied_63 : decode cX5_canBeCopied 63 = .ok (.getfield 188, 3) := by decide +kernel
theorem dX5_canBeCopied_66 : decode cX5_canBeCopied 66 = .ok (.iload 4, 2) := by decide +kernel
theorem dX5_canBeCopied_68 : decode cX5_canBeCopied 68 = .ok (.iaload, 1) := by decide +kernel
theorem dX5_canBeCopied_69 : decode cX5_canBeCopied 69 = .ok (.iaload, 1) := by decide +kernel
theorem dX5_canBeCopied_70 : decode cX5_canBeCopied 70 = .ok (.iconst 2, 1) := by decide +kernel
theorem dX5_canBeCopied_71 : decode cX5_canBeCopied 71 = .ok (.if_icmp .ne 7, 3) := by decide +kernel
theorem dX5_canBeCopied_74 : decode cX5_canBeCopied 74 = .ok (.iconst 1, 1) := by decide +kernel
theorem dX5_canBeCopied_75 : decode cX5_canBeCopied 75 = .ok (.goto 4, 3) := by decide +kernel
theorem dX5_canBeCopied_78 : decode cX5_canBeCopied 78 = .ok (.iconst 0, 1) := by decide +kernel
theorem dX5_canBeCopied_79 : decode cX5_canBeCopied 79 = .ok (.istore 6, 2) := by decide +kernel
theorem dX5_canBeCopied_81 : decode cX5_canBeCopied 81 = .ok (.iload 6, 2) := by decide +kernel
theorem dX5_canBeCopied_83 : decode cX5_canBeCopied 83 = .ok (.ifCond .eq 19, 3) := by decide +kernel
theorem dX5_canBeCopied_86 : decode cX5_canBeCopied 86 = .ok (.iload_n 2, 1) := by decide +kernel
theorem dX5_canBeCopied_87 : decode cX5_canBeCopied 87 = .ok (.ifCond .ne 13, 3) := by decide +kernel
theorem dX5_canBeCopied_90 : decode cX5_canBeCopied 90 = .ok (.aload_n 0, 1) := by decide +kernel
theorem dX5_canBeCopied_91 : decode cX5_canBeCopied 91 = .ok (.getfield 22, 3) := by decide +kernel
theorem dX5_canBeCopied_94 : decode cX5_canBeCopied 94 = .ok (.iload 5, 2) := by decide +kernel
theorem dX5_canBeCopied_96 : decode cX5_canBeCopied 96 = .ok (.iaload, 1) := by decide +kernel
theorem dX5_canBeCopied_97 : decode cX5_canBeCopied 97 = .ok (.ifCond .ne 5, 3) := by decide +kernel
theorem dX5_canBeCopied_100 : decode cX5_canBeCopied 100 = .ok (.iconst 1, 1) := by decide +kernel
theorem dX5_canBeCopied_101 : decode cX5_canBeCopied 101 = .ok (.ireturn, 1) := by decide +kernel
theorem dX5_canBeCopied_102 : decode cX5_canBeCopied 102 = .ok (.iinc 4 1, 3) := by decide +kernel
theorem dX5_canBeCopied_105 : decode cX5_canBeCopied 105 = .ok (.goto (-102), 3) := by decide +kernel
theorem dX5_canBeCopied_108 : decode cX5_canBeCopied 108 = .ok (.iconst 0, 1) := by decide +kernel
theorem dX5_canBeCopied_109 : decode cX5_canBeCopied 109 = .ok (.ireturn, 1) := by decide +kernel
theorem dX5_firstWriter_0 : decode cX5_firstWriter 0 = .ok (.iconst 0, 1) := by decide +kernel
theorem dX5_firstWriter_1 : decode cX5_firstWriter 1 = .ok (.istore_n 3, 1) := by decide +kernel
theorem dX5_firstWriter_2 : decode cX5_firstWriter 2 = .ok (.iload_n 3, 1) := by decide +kernel
theorem dX5_firstWriter_3 : decode cX5_firstWriter 3 = .ok (.aload_n 0, 1) := by decide +kernel
theorem dX5_firstWriter_4 : decode cX5_firstWriter 4 = .ok (.getfield 40, 3) := by decide +kernel
theorem dX5_firstWriter_7 : decode cX5_firstWriter 7 = .ok (.if_icmp .ge 52, 3) := by decide +kernel
theorem dX5_firstWriter_10 : decode cX5_firstWriter 10 = .ok (.aload_n 0, 1) := by decide +kernel
theorem dX5_firstWriter_11 : decode cX5_firstWriter 11 = .ok (.getfield 18, 3) := by decide +kernel
theorem dX5_firstWriter_14 : decode cX5_firstWriter 14 = .ok (.iload_n 3, 1) := by decide +kernel
theorem dX5_firstWriter_15 : decode cX5_firstWriter 15 = .ok (.iaload, 1) := by decide +kernel
theorem dX5_firstWriter_16 : decode cX5_firstWriter 16 = .ok (.iload_n 1, 1) := by decide +kernel
theorem dX5_firstWriter_17 : decode cX5_firstWriter 17 = .ok (.if_icmp .ne 36, 3) := by decide +kernel
theorem dX5_firstWriter_20 : decode cX5_firstWriter 20 = .ok (.aload_n 0, 1) := by decide +kernel
theorem dX5_firstWriter_21 : decode cX5_firstWriter 21 = .ok (.getfield 22, 3) := by decide +kernel
theorem dX5_firstWriter_24 : decode cX5_firstWriter 24 = .ok (.iload_n 3, 1) := by decide +kernel
theorem dX5_firstWriter_25 : decode cX5_firstWriter 25 = .ok (.iaload, 1) := by decide +kernel
theorem dX5_firstWriter_26 : decode cX5_firstWriter 26 = .ok (.iload_n 2, 1) := by decide +kernel
theorem dX5_firstWriter_27 : decode cX5_firstWriter 27 = .ok (.if_icmp .ne 26, 3) := by decide +kernel
theorem dX5_firstWriter_30 : decode cX5_firstWriter 30 = .ok (.aload_n 0, 1) := by decide +kernel
theorem dX5_firstWriter_31 : decode cX5_firstWriter 31 = .ok (.getfield 28, 3) := by decide +kernel
theorem dX5_firstWriter_34 : decode cX5_firstWriter 34 = .ok (.iload_n 3, 1) := by decide +kernel
theorem dX5_firstWriter_35 : decode cX5_firstWriter 35 = .ok (.iaload, 1) := by decide +kernel
theorem dX5_firstWriter_36 : decode cX5_firstWriter 36 = .ok (.iconst (-1), 1) := by decide +kernel
theorem dX5_firstWriter_37 : decode cX5_firstWriter 37 = .ok (.if_icmp .ne 7, 3) := by decide +kernel
theorem dX5_firstWriter_40 : decode cX5_firstWriter 40 = .ok (.iconst 0, 1) := by decide +kernel
theorem dX5_firstWriter_41 : decode cX5_firstWriter 41 = .ok (.goto 11, 3) := by decide +kernel
theorem dX5_firstWriter_44 : decode cX5_firstWriter 44 = .ok (.iconst 1, 1) := by decide +kernel
theorem dX5_firstWriter_45 : decode cX5_firstWriter 45 = .ok (.aload_n 0, 1) := by decide +kernel
theorem dX5_firstWriter_46 : decode cX5_firstWriter 46 = .ok (.getfield 28, 3) := by decide +kernel
theorem dX5_firstWriter_49 : decode cX5_firstWriter 49 = .ok (.iload_n 3, 1) := by decide +kernel
theorem dX5_firstWriter_50 : decode cX5_firstWriter 50 = .ok (.iaload, 1) := by decide +kernel
theorem dX5_firstWriter_51 : decode cX5_firstWriter 51 = .ok (.ishl, 1) := by decide +kernel
theorem dX5_firstWriter_52 : decode cX5_firstWriter 52 = .ok (.ireturn, 1) := by decide +kernel
theorem dX5_firstWriter_53 : decode cX5_firstWriter 53 = .ok (.iinc 3 1, 3) := by decide +kernel
theorem dX5_firstWriter_56 : decode cX5_firstWriter 56 = .ok (.goto (-54), 3) := by decide +kernel
theorem dX5_firstWriter_59 : decode cX5_firstWriter 59 = .ok (.iconst 0, 1) := by decide +kernel
theorem dX5_firstWriter_60 : decode cX5_firstWriter 60 = .ok (.ireturn, 1) := by decide +kernel
theorem dJ6_bitCount_0f7a4_0 : decode cJ6_bitCount_0f7a4 0 = .ok (.iload_n 0, 1) := by decide +kernel
theorem dJ6_bitCount_0f7a4_1 : decode cJ6_bitCount_0f7a4 1 = .ok (.iload_n 0, 1) := by decide +kernel
theorem dJ6_bitCount_0f7a4_2 : decode cJ6_bitCount_0f7a4 2 = .ok (.iconst 1, 1) := by decide +kernel
theorem dJ6_bitCount_0f7a4_3 : decode cJ6_bitCount_0f7a4 3 = .ok (.iushr, 1) := by decide +kernel
theorem dJ6_bitCount_0f7a4_4 : decode cJ6_bitCount_0f7a4 4 = .ok (.ldc_w 265, 3) := by decide +kernel
theorem dJ6_bitCount_0f7a4_7 : decode cJ6_bitCount_0f7a4 7 = .ok (.iand, 1) := by decide +kernel
theorem dJ6_bitCount_0f7a4_8 : decode cJ6_bitCount_0f7a4 8 = .ok (.isub, 1) := by decide +kernel
theorem dJ6_bitCount_0f7a4_9 : decode cJ6_bitCount_0f7a4 9 = .ok (.istore_n 0, 1) := by decide +kernel
theorem dJ6_bitCount_0f7a4_10 : decode cJ6_bitCount_0f7a4 10 = .ok (.iload_n 0, 1) := by decide +kernel
theorem dJ6_bitCount_0f7a4_11 : decode cJ6_bitCount_0f7a4 11 = .ok (.ldc_w 266, 3) := by decide +kernel
theorem dJ6_bitCount_0f7a4_14 : decode cJ6_bitCount_0f7a4 14 = .ok (.iand, 1) := by decide +kernel
theorem dJ6_bitCount_0f7a4_15 : decode cJ6_bitCount_0f7a4 15 = .ok (.iload_n 0, 1) := by decide +kernel
theorem dJ6_bitCount_0f7a4_16 : decode cJ6_bitCount_0f7a4 16 = .ok (.iconst 2, 1) := by decide +kernel
theorem dJ6_bitCount_0f7a4_17 : decode cJ6_bitCount_0f7a4 17 = .ok (.iushr, 1) := by decide +kernel
theorem dJ6_bitCount_0f7a4_18 : decode cJ6_bitCount_0f7a4 18 = .ok (.ldc_w 266, 3) := by decide +kernel
theorem dJ6_bitCount_0f7a4_21 : decode cJ6_bitCount_0f7a4 21 = .ok (.iand, 1) := by decide +kernel
theorem dJ6_bitCount_0f7a4_22 : decode cJ6_bitCount_0f7a4 22 = .ok (.iadd, 1) := by decide +kernel
theorem dJ6_bitCount_0f7a4_23 : decode cJ6_bitCount_0f7a4 23 = .ok (.istore_n 0, 1) := by decide +kernel
theorem dJ6_bitCount_0f7a4_24 : decode cJ6_bitCount_0f7a4 24 = .ok (.iload_n 0, 1) := by decide +kernel
theorem dJ6_bitCount_0f7a4_25 : decode cJ6_bitCount_0f7a4 25 = .ok (.iload_n 0, 1) := by decide +kernel
theorem dJ6_bitCount_0f7a4_26 : decode cJ6_bitCount_0f7a4 26 = .ok (.iconst 4, 1) := by decide +kernel
theorem dJ6_bitCount_0f7a4_27 : decode cJ6_bitCount_0f7a4 27 = .ok (.iushr, 1) := by decide +kernel
theorem dJ6_bitCount_0f7a4_28 : decode cJ6_bitCount_0f7a4 28 = .ok (.iadd, 1) := by decide +kernel
theorem dJ6_bitCount_0f7a4_29 : decode cJ6_bitCount_0f7a4 29 = .ok (.ldc_w 267, 3) := by decide +kernel
theorem dJ6_bitCount_0f7a4_32 : decode cJ6_bitCount_0f7a4 32 = .ok (.iand, 1) := by decide +kernel
theorem dJ6_bitCount_0f7a4_33 : decode cJ6_bitCount_0f7a4 33 = .ok (.istore_n 0, 1) := by decide +kernel
theorem dJ6_bitCount_0f7a4_34 : decode cJ6_bitCount_0f7a4 34 = .ok (.iload_n 0, 1) := by decide +kernel
theorem dJ6_bitCount_0f7a4_35 : decode cJ6_bitCount_0f7a4 35 = .ok (.iload_n 0, 1) := by decide +kernel
theorem dJ6_bitCount_0f7a4_36 : decode cJ6_bitCount_0f7a4 36 = .ok (.bipush 8, 2) := by decide +kernel
theorem dJ6_bitCount_0f7a4_38 : decode cJ6_bitCount_0f7a4 38 = .ok (.iushr, 1) := by decide +kernel
theorem dJ6_bitCount_0f7a4_39 : decode cJ6_bitCount_0f7a4 39 = .ok (.iadd, 1) := by decide +kernel
theorem dJ6_bitCount_0f7a4_40 : decode cJ6_bitCount_0f7a4 40 = .ok (.istore_n 0, 1) := by decide +kernel
theorem dJ6_bitCount_0f7a4_41 : decode cJ6_bitCount_0f7a4 41 = .ok (.iload_n 0, 1) := by decide +kernel
theorem dJ6_bitCount_0f7a4_42 : decode cJ6_bitCount_0f7a4 42 = .ok (.iload_n 0, 1) := by decide +kernel
theorem dJ6_bitCount_0f7a4_43 : decode cJ6_bitCount_0f7a4 43 = .ok (.bipush 16, 2) := by decide +kernel
theorem dJ6_bitCount_0f7a4_45 : decode cJ6_bitCount_0f7a4 45 = .ok (.iushr, 1) := by decide +kernel
theorem dJ6_bitCount_0f7a4_46 : decode cJ6_bitCount_0f7a4 46 = .ok (.iadd, 1) := by decide +kernel
theorem dJ6_bitCount_0f7a4_47 : decode cJ6_bitCount_0f7a4 47 = .ok (.istore_n 0, 1) := by decide +kernel
theorem dJ6_bitCount_0f7a4_48 : decode cJ6_bitCount_0f7a4 48 = .ok (.iload_n 0, 1) := by decide +kernel
theorem dJ6_bitCount_0f7a4_49 : decode cJ6_bitCount_0f7a4 49 = .ok (.bipush 63, 2) := by decide +kernel
theorem dJ6_bitCount_0f7a4_51 : decode cJ6_bitCount_0f7a4 51 = .ok (.iand, 1) := by decide +kernel
theorem dJ6_bitCount_0f7a4_52 : decode cJ6_bitCount_0f7a4 52 = .ok (.ireturn, 1) := by decide +kernel
theorem dJ7_fill_53178_0 : decode cJ7_fill_53178 0 = .ok (.iconst 0, 1) := by decide +kernel
theorem dJ7_fill_53178_1 : decode cJ7_fill_53178 1 = .ok (.istore_n 2, 1) := by decide +kernel
theorem dJ7_fill_53178_2 : decode cJ7_fill_53178 2 = .ok (.aload_n 0, 1) := by decide +kernel
theorem dJ7_fill_53178_3 : decode cJ7_fill_53178 3 = .ok (.arraylength, 1) := by decide +kernel
theorem dJ7_fill_53178_4 : decode cJ7_fill_53178 4 = .ok (.istore_n 3, 1) := by decide +kernel
theorem dJ7_fill_53178_5 : decode cJ7_fill_53178 5 = .ok (.iload_n 2, 1) := by decide +kernel
theorem dJ7_fill_53178_6 : decode cJ7_fill_53178 6 = .ok (.iload_n 3, 1) := by decide +kernel
theorem dJ7_fill_53178_7 : decode cJ7_fill_53178 7 = .ok (.if_icmp .ge 13, 3) := by decide +kernel
theorem dJ7_fill_53178_10 : decode cJ7_fill_53178 10 = .ok (.aload_n 0, 1) := by decide +kernel
theorem dJ7_fill_53178_11 : decode cJ7_fill_53178 11 = .ok (.iload_n 2, 1) := by decide +kernel
theorem dJ7_fill_53178_12 : decode cJ7_fill_53178 12 = .ok (.iload_n 1, 1) := by decide +kernel
theorem dJ7_fill_53178_13 : decode cJ7_fill_53178 13 = .ok (.iastore, 1) := by decide +kernel
theorem dJ7_fill_53178_14 : decode cJ7_fill_53178 14 = .ok (.iinc 2 1, 3) := by decide +kernel
theorem dJ7_fill_53178_17 : decode cJ7_fill_53178 17 = .ok (.goto (-12), 3) := by decide +kernel
theorem dJ7_fill_53178_20 : decode cJ7_fill_53178 20 = .ok (.return_, 1) := by decide +kernel
end
section
theorem ev_cV0 {Lay : List rf_Cell} {y : rf_Me} {pc : Nat} {L : List (Option Value)} {st : List Value} {M : rf_Mem} {r : Option Value} {M' : rf_Mem} {y' : rf_Me} {idx ci q : Nat} {fl : List (Option Nat)} {w : Value} {M1 : rf_Mem} (hd : decode y.2.1 pc = .ok (.invokevirtual idx, 3)) (hc : rf_ceV y' 0 ci) (hw : Cond.methodLink y.1.cls idx y'.1 ∈ wsL_law) (hrm : rf_rm y y') (hst : (st.map fun v => v.category).sum ≤ 8) (hent : (rf_sl [.ref q]).length ≤ y'.2.2.1) (hb : Ev Lay y' 0 (rf_ent y'.2.2.1 [.ref q]) [] M (some w) M1) (hq : Lay[q]? = some (.inl (ci, fl))) (h : Ev Lay y (pc + 3) L (w :: st) M1 r M') : Ev Lay y pc L (.ref q :: st) M r M' :=
  ev_callV [] hd rfl hc hw hrm hq rfl hst hent hb h
theorem ev_cV0v {Lay : List rf_Cell} {y : rf_Me} {pc : Nat} {L : List (Option Value)} {st : List Value} {M : rf_Mem} {r : Option Value} {M' : rf_Mem} {y' : rf_Me} {idx ci q : Nat} {fl : List (Option Nat)} {M1 : rf_Mem} (hd : decode y.2.1 pc = .ok (.invokevirtual idx, 3)) (hc : rf_ceV y' 0 ci) (hw : Cond.methodLink y.1.cls idx y'.1 ∈ wsL_law) (hrm : rf_rm y y') (hst : (st.map fun v => v.category).sum ≤ 8) (hent : (rf_sl [.ref q]).length ≤ y'.2.2.1) (hb : Ev Lay y' 0 (rf_ent y'.2.2.1 [.ref q]) [] M none M1) (hq : Lay[q]? = some (.inl (ci, fl))) (h : Ev Lay y (pc + 3) L st M1 r M') : Ev Lay y pc L (.ref q :: st) M r M' :=
  ev_callV [] hd rfl hc hw hrm hq rfl hst hent hb h
theorem ev_cV1 {Lay : List rf_Cell} {y : rf_Me} {pc : Nat} {L : List (Option Value)} {st : List Value} {M : rf_Mem} {r : Option Value} {M' : rf_Mem} {y' : rf_Me} {idx ci q : Nat} {fl : List (Option Nat)} {v1 : Value} {w : Value} {M1 : rf_Mem} (hd : decode y.2.1 pc = .ok (.invokevirtual idx, 3)) (hc : rf_ceV y' 1 ci) (hw : Cond.methodLink y.1.cls idx y'.1 ∈ wsL_law) (hrm : rf_rm y y') (hst : (st.map fun v => v.category).sum ≤ 8) (hent : (rf_sl [.ref q, v1]).length ≤ y'.2.2.1) (hb : Ev Lay y' 0 (rf_ent y'.2.2.1 [.ref q, v1]) [] M (some w) M1) (hq : Lay[q]? = some (.inl (ci, fl))) (h : Ev Lay y (pc + 3) L (w :: st) M1 r M') : Ev Lay y pc L (v1 :: .ref q :: st) M r M' :=
  ev_callV [v1] hd rfl hc hw hrm hq rfl hst hent hb h
theorem ev_cV1v {Lay : List rf_Cell} {y : rf_Me} {pc : Nat} {L : List (Option Value)} {st : List Value} {M : rf_Mem} {r : Option Value} {M' : rf_Mem} {y' : rf_Me} {idx ci q : Nat} {fl : List (Option Nat)} {v1 : Value} {M1 : rf_Mem} (hd : decode y.2.1 pc = .ok (.invokevirtual idx, 3)) (hc : rf_ceV y' 1 ci) (hw : Cond.methodLink y.1.cls idx y'.1 ∈ wsL_law) (hrm : rf_rm y y') (hst : (st.map fun v => v.category).sum ≤ 8) (hent : (rf_sl [.ref q, v1]).length ≤ y'.2.2.1) (hb : Ev Lay y' 0 (rf_ent y'.2.2.1 [.ref q, v1]) [] M none M1) (hq : Lay[q]? = some (.inl (ci, fl))) (h : Ev Lay y (pc + 3) L st M1 r M') : Ev Lay y pc L (v1 :: .ref q :: st) M r M' :=
  ev_callV [v1] hd rfl hc hw hrm hq rfl hst hent hb h
theorem ev_cS1 {Lay : List rf_Cell} {y : rf_Me} {pc : Nat} {L : List (Option Value)} {st : List Value} {M : rf_Mem} {r : Option Value} {M' : rf_Mem} {y' : rf_Me} {idx : Nat} {v1 : Value} {w : Value} {M1 : rf_Mem} (hd : decode y.2.1 pc = .ok (.invokestatic idx, 3)) (hc : rf_ceS y' 1) (hw : Cond.methodLink y.1.cls idx y'.1 ∈ wsL_law) (hrm : rf_rm y y') (hst : (st.map fun v => v.category).sum ≤ 8) (hent : (rf_sl [v1]).length ≤ y'.2.2.1) (hb : Ev Lay y' 0 (rf_ent y'.2.2.1 [v1]) [] M (some w) M1) (h : Ev Lay y (pc + 3) L (w :: st) M1 r M') : Ev Lay y pc L (v1 :: st) M r M' :=
  ev_callS [v1] hd rfl hc hw hrm rfl hst hent hb h
theorem ev_cS1v {Lay : List rf_Cell} {y : rf_Me} {pc : Nat} {L : List (Option Value)} {st : List Value} {M : rf_Mem} {r : Option Value} {M' : rf_Mem} {y' : rf_Me} {idx : Nat} {v1 : Value} {M1 : rf_Mem} (hd : decode y.2.1 pc = .ok (.invokestatic idx, 3)) (hc : rf_ceS y' 1) (hw : Cond.methodLink y.1.cls idx y'.1 ∈ wsL_law) (hrm : rf_rm y y') (hst : (st.map fun v => v.category).sum ≤ 8) (hent : (rf_sl [v1]).length ≤ y'.2.2.1) (hb : Ev Lay y' 0 (rf_ent y'.2.2.1 [v1]) [] M none M1) (h : Ev Lay y (pc + 3) L st M1 r M') : Ev Lay y pc L (v1 :: st) M r M' :=
  ev_callS [v1] hd rfl hc hw hrm rfl hst hent hb h
theorem ev_cV2 {Lay : List rf_Cell} {y : rf_Me} {pc : Nat} {L : List (Option Value)} {st : List Value} {M : rf_Mem} {r : Option Value} {M' : rf_Mem} {y' : rf_Me} {idx ci q : Nat} {fl : List (Option Nat)} {v1 v2 : Value} {w : Value} {M1 : rf_Mem} (hd : decode y.2.1 pc = .ok (.invokevirtual idx, 3)) (hc : rf_ceV y' 2 ci) (hw : Cond.methodLink y.1.cls idx y'.1 ∈ wsL_law) (hrm : rf_rm y y') (hst : (st.map fun v => v.category).sum ≤ 8) (hent : (rf_sl [.ref q, v1, v2]).length ≤ y'.2.2.1) (hb : Ev Lay y' 0 (rf_ent y'.2.2.1 [.ref q, v1, v2]) [] M (some w) M1) (hq : Lay[q]? = some (.inl (ci, fl))) (h : Ev Lay y (pc + 3) L (w :: st) M1 r M') : Ev Lay y pc L (v2 :: v1 :: .ref q :: st) M r M' :=
  ev_callV [v1, v2] hd rfl hc hw hrm hq rfl hst hent hb h
theorem ev_cV2v {Lay : List rf_Cell} {y : rf_Me} {pc : Nat} {L : List (Option Value)} {st : List Value} {M : rf_Mem} {r : Option Value} {M' : rf_Mem} {y' : rf_Me} {idx ci q : Nat} {fl : List (Option Nat)} {v1 v2 : Value} {M1 : rf_Mem} (hd : decode y.2.1 pc = .ok (.invokevirtual idx, 3)) (hc : rf_ceV y' 2 ci) (hw : Cond.methodLink y.1.cls idx y'.1 ∈ wsL_law) (hrm : rf_rm y y') (hst : (st.map fun v => v.category).sum ≤ 8) (hent : (rf_sl [.ref q, v1, v2]).length ≤ y'.2.2.1) (hb : Ev Lay y' 0 (rf_ent y'.2.2.1 [.ref q, v1, v2]) [] M none M1) (hq : Lay[q]? = some (.inl (ci, fl))) (h : Ev Lay y (pc + 3) L st M1 r M') : Ev Lay y pc L (v2 :: v1 :: .ref q :: st) M r M' :=
  ev_callV [v1, v2] hd rfl hc hw hrm hq rfl hst hent hb h
theorem ev_cS2 {Lay : List rf_Cell} {y : rf_Me} {pc : Nat} {L : List (Option Value)} {st : List Value} {M : rf_Mem} {r : Option Value} {M' : rf_Mem} {y' : rf_Me} {idx : Nat} {v1 v2 : Value} {w : Value} {M1 : rf_Mem} (hd : decode y.2.1 pc = .ok (.invokestatic idx, 3)) (hc : rf_ceS y' 2) (hw : Cond.methodLink y.1.cls idx y'.1 ∈ wsL_law) (hrm : rf_rm y y') (hst : (st.map fun v => v.category).sum ≤ 8) (hent : (rf_sl [v1, v2]).length ≤ y'.2.2.1) (hb : Ev Lay y' 0 (rf_ent y'.2.2.1 [v1, v2]) [] M (some w) M1) (h : Ev Lay y (pc + 3) L (w :: st) M1 r M') : Ev Lay y pc L (v2 :: v1 :: st) M r M' :=
  ev_callS [v1, v2] hd rfl hc hw hrm rfl hst hent hb h
theorem ev_cS2v {Lay : List rf_Cell} {y : rf_Me} {pc : Nat} {L : List (Option Value)} {st : List Value} {M : rf_Mem} {r : Option Value} {M' : rf_Mem} {y' : rf_Me} {idx : Nat} {v1 v2 : Value} {M1 : rf_Mem} (hd : decode y.2.1 pc = .ok (.invokestatic idx, 3)) (hc : rf_ceS y' 2) (hw : Cond.methodLink y.1.cls idx y'.1 ∈ wsL_law) (hrm : rf_rm y y') (hst : (st.map fun v => v.category).sum ≤ 8) (hent : (rf_sl [v1, v2]).length ≤ y'.2.2.1) (hb : Ev Lay y' 0 (rf_ent y'.2.2.1 [v1, v2]) [] M none M1) (h : Ev Lay y (pc + 3) L st M1 r M') : Ev Lay y pc L (v2 :: v1 :: st) M r M' :=
  ev_callS [v1, v2] hd rfl hc hw hrm rfl hst hent hb h
theorem ev_cV3 {Lay : List rf_Cell} {y : rf_Me} {pc : Nat} {L : List (Option Value)} {st : List Value} {M : rf_Mem} {r : Option Value} {M' : rf_Mem} {y' : rf_Me} {idx ci q : Nat} {fl : List (Option Nat)} {v1 v2 v3 : Value} {w : Value} {M1 : rf_Mem} (hd : decode y.2.1 pc = .ok (.invokevirtual idx, 3)) (hc : rf_ceV y' 3 ci) (hw : Cond.methodLink y.1.cls idx y'.1 ∈ wsL_law) (hrm : rf_rm y y') (hst : (st.map fun v => v.category).sum ≤ 8) (hent : (rf_sl [.ref q, v1, v2, v3]).length ≤ y'.2.2.1) (hb : Ev Lay y' 0 (rf_ent y'.2.2.1 [.ref q, v1, v2, v3]) [] M (some w) M1) (hq : Lay[q]? = some (.inl (ci, fl))) (h : Ev Lay y (pc + 3) L (w :: st) M1 r M') : Ev Lay y pc L (v3 :: v2 :: v1 :: .ref q :: st) M r M' :=
  ev_callV [v1, v2, v3] hd rfl hc hw hrm hq rfl hst hent hb h
theorem ev_cV3v {Lay : List rf_Cell} {y : rf_Me} {pc : Nat} {L : List (Option Value)} {st : List Value} {M : rf_Mem} {r : Option Value} {M' : rf_Mem} {y' : rf_Me} {idx ci q : Nat} {fl : List (Option Nat)} {v1 v2 v3 : Value} {M1 : rf_Mem} (hd : decode y.2.1 pc = .ok (.invokevirtual idx, 3)) (hc : rf_ceV y' 3 ci) (hw : Cond.methodLink y.1.cls idx y'.1 ∈ wsL_law) (hrm : rf_rm y y') (hst : (st.map fun v => v.category).sum ≤ 8) (hent : (rf_sl [.ref q, v1, v2, v3]).length ≤ y'.2.2.1) (hb : Ev Lay y' 0 (rf_ent y'.2.2.1 [.ref q, v1, v2, v3]) [] M none M1) (hq : Lay[q]? = some (.inl (ci, fl))) (h : Ev Lay y (pc + 3) L st M1 r M') : Ev Lay y pc L (v3 :: v2 :: v1 :: .ref q :: st) M r M' :=
  ev_callV [v1, v2, v3] hd rfl hc hw hrm hq rfl hst hent hb h
theorem ev_cS3 {Lay : List rf_Cell} {y : rf_Me} {pc : Nat} {L : List (Option Value)} {st : List Value} {M : rf_Mem} {r : Option Value} {M' : rf_Mem} {y' : rf_Me} {idx : Nat} {v1 v2 v3 : Value} {w : Value} {M1 : rf_Mem} (hd : decode y.2.1 pc = .ok (.invokestatic idx, 3)) (hc : rf_ceS y' 3) (hw : Cond.methodLink y.1.cls idx y'.1 ∈ wsL_law) (hrm : rf_rm y y') (hst : (st.map fun v => v.category).sum ≤ 8) (hent : (rf_sl [v1, v2, v3]).length ≤ y'.2.2.1) (hb : Ev Lay y' 0 (rf_ent y'.2.2.1 [v1, v2, v3]) [] M (some w) M1) (h : Ev Lay y (pc + 3) L (w :: st) M1 r M') : Ev Lay y pc L (v3 :: v2 :: v1 :: st) M r M' :=
  ev_callS [v1, v2, v3] hd rfl hc hw hrm rfl hst hent hb h
theorem ev_cS3v {Lay : List rf_Cell} {y : rf_Me} {pc : Nat} {L : List (Option Value)} {st : List Value} {M : rf_Mem} {r : Option Value} {M' : rf_Mem} {y' : rf_Me} {idx : Nat} {v1 v2 v3 : Value} {M1 : rf_Mem} (hd : decode y.2.1 pc = .ok (.invokestatic idx, 3)) (hc : rf_ceS y' 3) (hw : Cond.methodLink y.1.cls idx y'.1 ∈ wsL_law) (hrm : rf_rm y y') (hst : (st.map fun v => v.category).sum ≤ 8) (hent : (rf_sl [v1, v2, v3]).length ≤ y'.2.2.1) (hb : Ev Lay y' 0 (rf_ent y'.2.2.1 [v1, v2, v3]) [] M none M1) (h : Ev Lay y (pc + 3) L st M1 r M') : Ev Lay y pc L (v3 :: v2 :: v1 :: st) M r M' :=
  ev_callS [v1, v2, v3] hd rfl hc hw hrm rfl hst hent hb h
theorem ev_cV4 {Lay : List rf_Cell} {y : rf_Me} {pc : Nat} {L : List (Option Value)} {st : List Value} {M : rf_Mem} {r : Option Value} {M' : rf_Mem} {y' : rf_Me} {idx ci q : Nat} {fl : List (Option Nat)} {v1 v2 v3 v4 : Value} {w : Value} {M1 : rf_Mem} (hd : decode y.2.1 pc = .ok (.invokevirtual idx, 3)) (hc : rf_ceV y' 4 ci) (hw : Cond.methodLink y.1.cls idx y'.1 ∈ wsL_law) (hrm : rf_rm y y') (hst : (st.map fun v => v.category).sum ≤ 8) (hent : (rf_sl [.ref q, v1, v2, v3, v4]).length ≤ y'.2.2.1) (hb : Ev Lay y' 0 (rf_ent y'.2.2.1 [.ref q, v1, v2, v3, v4]) [] M (some w) M1) (hq : Lay[q]? = some (.inl (ci, fl))) (h : Ev Lay y (pc + 3) L (w :: st) M1 r M') : Ev Lay y pc L (v4 :: v3 :: v2 :: v1 :: .ref q :: st) M r M' :=
  ev_callV [v1, v2, v3, v4] hd rfl hc hw hrm hq rfl hst hent hb h
theorem ev_cV4v {Lay : List rf_Cell} {y : rf_Me} {pc : Nat} {L : List (Option Value)} {st : List Value} {M : rf_Mem} {r : Option Value} {M' : rf_Mem} {y' : rf_Me} {idx ci q : Nat} {fl : List (Option Nat)} {v1 v2 v3 v4 : Value} {M1 : rf_Mem} (hd : decode y.2.1 pc = .ok (.invokevirtual idx, 3)) (hc : rf_ceV y' 4 ci) (hw : Cond.methodLink y.1.cls idx y'.1 ∈ wsL_law) (hrm : rf_rm y y') (hst : (st.map fun v => v.category).sum ≤ 8) (hent : (rf_sl [.ref q, v1, v2, v3, v4]).length ≤ y'.2.2.1) (hb : Ev Lay y' 0 (rf_ent y'.2.2.1 [.ref q, v1, v2, v3, v4]) [] M none M1) (hq : Lay[q]? = some (.inl (ci, fl))) (h : Ev Lay y (pc + 3) L st M1 r M') : Ev Lay y pc L (v4 :: v3 :: v2 :: v1 :: .ref q :: st) M r M' :=
  ev_callV [v1, v2, v3, v4] hd rfl hc hw hrm hq rfl hst hent hb h
theorem ev_cS4 {Lay : List rf_Cell} {y : rf_Me} {pc : Nat} {L : List (Option Value)} {st : List Value} {M : rf_Mem} {r : Option Value} {M' : rf_Mem} {y' : rf_Me} {idx : Nat} {v1 v2 v3 v4 : Value} {w : Value} {M1 : rf_Mem} (hd : decode y.2.1 pc = .ok (.invokestatic idx, 3)) (hc : rf_ceS y' 4) (hw : Cond.methodLink y.1.cls idx y'.1 ∈ wsL_law) (hrm : rf_rm y y') (hst : (st.map fun v => v.category).sum ≤ 8) (hent : (rf_sl [v1, v2, v3, v4]).length ≤ y'.2.2.1) (hb : Ev Lay y' 0 (rf_ent y'.2.2.1 [v1, v2, v3, v4]) [] M (some w) M1) (h : Ev Lay y (pc + 3) L (w :: st) M1 r M') : Ev Lay y pc L (v4 :: v3 :: v2 :: v1 :: st) M r M' :=
  ev_callS [v1, v2, v3, v4] hd rfl hc hw hrm rfl hst hent hb h
theorem ev_cS4v {Lay : List rf_Cell} {y : rf_Me} {pc : Nat} {L : List (Option Value)} {st : List Value} {M : rf_Mem} {r : Option Value} {M' : rf_Mem} {y' : rf_Me} {idx : Nat} {v1 v2 v3 v4 : Value} {M1 : rf_Mem} (hd : decode y.2.1 pc = .ok (.invokestatic idx, 3)) (hc : rf_ceS y' 4) (hw : Cond.methodLink y.1.cls idx y'.1 ∈ wsL_law) (hrm : rf_rm y y') (hst : (st.map fun v => v.category).sum ≤ 8) (hent : (rf_sl [v1, v2, v3, v4]).length ≤ y'.2.2.1) (hb : Ev Lay y' 0 (rf_ent y'.2.2.1 [v1, v2, v3, v4]) [] M none M1) (h : Ev Lay y (pc + 3) L st M1 r M') : Ev Lay y pc L (v4 :: v3 :: v2 :: v1 :: st) M r M' :=
  ev_callS [v1, v2, v3, v4] hd rfl hc hw hrm rfl hst hent hb h
theorem ev_cV8 {Lay : List rf_Cell} {y : rf_Me} {pc : Nat} {L : List (Option Value)} {st : List Value} {M : rf_Mem} {r : Option Value} {M' : rf_Mem} {y' : rf_Me} {idx ci q : Nat} {fl : List (Option Nat)} {v1 v2 v3 v4 v5 v6 v7 v8 : Value} {w : Value} {M1 : rf_Mem} (hd : decode y.2.1 pc = .ok (.invokevirtual idx, 3)) (hc : rf_ceV y' 8 ci) (hw : Cond.methodLink y.1.cls idx y'.1 ∈ wsL_law) (hrm : rf_rm y y') (hst : (st.map fun v => v.category).sum ≤ 8) (hent : (rf_sl [.ref q, v1, v2, v3, v4, v5, v6, v7, v8]).length ≤ y'.2.2.1) (hb : Ev Lay y' 0 (rf_ent y'.2.2.1 [.ref q, v1, v2, v3, v4, v5, v6, v7, v8]) [] M (some w) M1) (hq : Lay[q]? = some (.inl (ci, fl))) (h : Ev Lay y (pc + 3) L (w :: st) M1 r M') : Ev Lay y pc L (v8 :: v7 :: v6 :: v5 :: v4 :: v3 :: v2 :: v1 :: .ref q :: st) M r M' :=
  ev_callV [v1, v2, v3, v4, v5, v6, v7, v8] hd rfl hc hw hrm hq rfl hst hent hb h
theorem ev_cN2 {Lay : List rf_Cell} {y : rf_Me} {pc : Nat} {L : List (Option Value)} {st : List Value} {M : rf_Mem} {r : Option Value} {M' : rf_Mem} {y' : rf_Me} {v1 v2 : Value} {w : Value} {M1 : rf_Mem} (hd : decode y.2.1 pc = .ok (.invokestatic 26, 3)) (hc : rf_ceS y' 2) (hy : y.1.cls = RX3) (hy' : y'.1 = yX6_has) (hrm : rf_rm y y') (hst : (st.map fun v => v.category).sum ≤ 8) (hent : (rf_sl [v1, v2]).length ≤ y'.2.2.1) (hb : Ev Lay y' 0 (rf_ent y'.2.2.1 [v1, v2]) [] M (some w) M1) (h : Ev Lay y (pc + 3) L (w :: st) M1 r M') : Ev Lay y pc L (v2 :: v1 :: st) M r M' :=
  ev_callN [v1, v2] hd rfl hc hy hy' hrm rfl hst hent hb h
theorem ev_ialdE {Lay : List rf_Cell} {y : rf_Me} {pc : Nat} {L : List (Option Value)} {st : List Value} {M : rf_Mem} {r : Option Value} {M' : rf_Mem} {q n : Nat} {i : Int32} (p : Nat) (hd : decode y.2.1 pc = .ok (.iaload, 1)) (hi : i = nI p) (hq : Lay[q]? = some (.inr (.inl (n, 0)))) (hp : p < n ∧ n < 2 ^ 31) (h : Ev Lay y (pc + 1) L (.int (M q p) :: st) M r M') : Ev Lay y pc L (.int i :: .ref q :: st) M r M' := by
  subst hi
  refine ev_iald hd hq (vp_in_nI hp.1 hp.2) ?_
  rw [nI_clamp (Nat.lt_trans hp.1 hp.2)]
  exact h
theorem ev_zaldE {Lay : List rf_Cell} {y : rf_Me} {pc : Nat} {L : List (Option Value)} {st : List Value} {M : rf_Mem} {r : Option Value} {M' : rf_Mem} {q n : Nat} {i : Int32} (p : Nat) (hd : decode y.2.1 pc = .ok (.baload, 1)) (hi : i = nI p) (hq : Lay[q]? = some (.inr (.inl (n, 1)))) (hp : p < n ∧ n < 2 ^ 31) (h : Ev Lay y (pc + 1) L (.int (M q p) :: st) M r M') : Ev Lay y pc L (.int i :: .ref q :: st) M r M' := by
  subst hi
  refine ev_zald hd hq (vp_in_nI hp.1 hp.2) ?_
  rw [nI_clamp (Nat.lt_trans hp.1 hp.2)]
  exact h
theorem ev_iastE {Lay : List rf_Cell} {y : rf_Me} {pc : Nat} {L : List (Option Value)} {st : List Value} {M : rf_Mem} {r : Option Value} {M' : rf_Mem} {q n : Nat} {i x : Int32} (p : Nat) (hd : decode y.2.1 pc = .ok (.iastore, 1)) (hi : i = nI p) (hq : Lay[q]? = some (.inr (.inl (n, 0)))) (hp : p < n ∧ n < 2 ^ 31) (h : Ev Lay y (pc + 1) L st (rf_set M q p x) r M') : Ev Lay y pc L (.int x :: .int i :: .ref q :: st) M r M' := by
  subst hi
  refine ev_iast hd hq (vp_in_nI hp.1 hp.2) ?_
  rw [nI_clamp (Nat.lt_trans hp.1 hp.2)]
  exact h
theorem ev_zastE {Lay : List rf_Cell} {y : rf_Me} {pc : Nat} {L : List (Option Value)} {st : List Value} {M : rf_Mem} {r : Option Value} {M' : rf_Mem} {q n : Nat} {i x : Int32} (p : Nat) (hd : decode y.2.1 pc = .ok (.bastore, 1)) (hi : i = nI p) (hq : Lay[q]? = some (.inr (.inl (n, 1)))) (hp : p < n ∧ n < 2 ^ 31) (h : Ev Lay y (pc + 1) L st (rf_set M q p (vp_nar .boolean x)) r M') : Ev Lay y pc L (.int x :: .int i :: .ref q :: st) M r M' := by
  subst hi
  refine ev_zast hd hq (vp_in_nI hp.1 hp.2) ?_
  rw [nI_clamp (Nat.lt_trans hp.1 hp.2)]
  exact h
theorem ev_iretE {Lay : List rf_Cell} {y : rf_Me} {pc : Nat} {L : List (Option Value)} {M : rf_Mem} {r : Option Value} {M' : rf_Mem} {x : Int32} {ty : FieldType} (hd : decode y.2.1 pc = .ok (.ireturn, 1)) (hr : y.2.2.2.1 = some ty) (hn : narrow ty (.int x) = .int x) (h1 : some (.int x) = r) (h2 : M = M') : Ev Lay y pc L [.int x] M r M' := by
  subst h1
  subst h2
  exact ev_iret (st := []) (r := none) (M' := M) hd hr hn
theorem ev_vretE {Lay : List rf_Cell} {y : rf_Me} {pc : Nat} {L : List (Option Value)} {M : rf_Mem} {r : Option Value} {M' : rf_Mem} (hd : decode y.2.1 pc = .ok (.return_, 1)) (hr : y.2.2.2.1 = none) (h1 : none = r) (h2 : M = M') : Ev Lay y pc L [] M r M' := by
  subst h1
  subst h2
  exact ev_vret (st := []) (r := none) (M' := M) hd hr
/-- another name for the same state -/
theorem ev_st {Lay : List rf_Cell} {y : rf_Me} {pc : Nat} {L L2 : List (Option Value)} {st st2 : List Value} {M M2 : rf_Mem} {r : Option Value} {M' : rf_Mem} (h : Ev Lay y pc L2 st2 M2 r M') (e1 : L = L2) (e2 : st = st2) (e3 : M = M2) : Ev Lay y pc L st M r M' := by
  subst e1; subst e2; subst e3; exact h
/-- a counted loop, down from its end -/
theorem ev_for {Lay : List rf_Cell} {y : rf_Me} {pc : Nat} {r : Option Value} {M' : rf_Mem} (n : Nat) (L : Nat → List (Option Value)) (M : Nat → rf_Mem) (hx : Ev Lay y pc (L n) [] (M n) r M') (hs : ∀ i, i < n → Ev Lay y pc (L (i + 1)) [] (M (i + 1)) r M' → Ev Lay y pc (L i) [] (M i) r M') : ∀ i, i ≤ n → Ev Lay y pc (L i) [] (M i) r M' := by
  intro i hi
  obtain ⟨d, hd⟩ : ∃ d, n - i = d := ⟨_, rfl⟩
  induction d generalizing i with
  | zero =>
    have e : i = n := by omega
    subst e
    exact hx
  | succ d ih => exact hs i (by omega) (ih (i + 1) (by omega) (by omega))
/-! the layouts -/
def stF (q : Nat) : List (Option Nat) := [some 8, some (q + 8), some (q + 1), some (q + 2), some (q + 3), some (q + 4), some (q + 5), some (q + 6), some (q + 7), none, none, none]
def stB (q : Nat) : List rf_Cell := [.inl (5, stF q), .inr (.inl (40, 0)), .inr (.inl (40, 0)), .inr (.inl (40, 0)), .inr (.inl (40, 0)), .inr (.inl (128, 0)), .inr (.inl (128, 0)), .inr (.inl (16, 0)), .inl (2, [some (q + 9), some (q + 10), some (q + 11), none]), .inr (.inl (300, 0)), .inr (.inl (300, 0)), .inr (.inl (300, 0))]
def LayC : List rf_Cell := [
  .inl (6, [some 1, some 3, some 8, some 21, some 33, some 13, none, some 14, some 18, some 19, none, some 20]),
  .inl (4, [some 2, none, none, none, none]), .inr (.inl (400, 0)),
  .inl (1, [some 4, some 5, some 6, some 7, none, none, none, none]), .inr (.inl (16, 0)), .inr (.inl (16, 0)), .inr (.inl (8, 0)), .inr (.inl (8, 0)),
  .inl (1, [some 9, some 10, some 11, some 12, none, none, none, none]), .inr (.inl (16, 0)), .inr (.inl (16, 0)), .inr (.inl (8, 0)), .inr (.inl (8, 0)),
  .inr (.inr [45, 57]),
  .inl (3, [some 15, some 16, some 17, none]), .inr (.inl (10, 0)), .inr (.inl (10, 0)), .inr (.inl (10, 0)),
  .inl (0, [none, none, none]), .inr (.inl (60, 0)), .inr (.inl (41, 0))] ++ stB 21 ++ stB 33 ++ stB 45 ++ stB 57
def LayM : List rf_Cell := [
  .inl (7, [some 1, some 2, some 3, some 4, some 5, some 6, some 7, none, none, none, some 8, none, none, none, none, none, none, none, some 9, some 10, some 11, none, some 12, some 13, none]),
  .inr (.inl (6000, 0)), .inr (.inl (2, 1)), .inr (.inl (32, 0)), .inr (.inl (32, 0)), .inr (.inl (16, 0)), .inr (.inl (16, 0)), .inr (.inl (4, 0)), .inr (.inl (400, 0)), .inr (.inl (10, 0)), .inr (.inl (10, 0)), .inr (.inl (10, 0)), .inr (.inl (42, 0)), .inr (.inl (60, 0))]
/-- a state's block in the layout -/
def st_ok (q : Nat) : Prop := LayC[q]? = some (.inl (5, stF q)) ∧ LayC[q + 1]? = some (.inr (.inl (40, 0))) ∧ LayC[q + 2]? = some (.inr (.inl (40, 0))) ∧ LayC[q + 3]? = some (.inr (.inl (40, 0))) ∧ LayC[q + 4]? = some (.inr (.inl (40, 0))) ∧ LayC[q + 5]? = some (.inr (.inl (128, 0))) ∧ LayC[q + 6]? = some (.inr (.inl (128, 0))) ∧ LayC[q + 7]? = some (.inr (.inl (16, 0))) ∧ LayC[q + 8]? = some (.inl (2, [some (q + 9), some (q + 10), some (q + 11), none])) ∧ LayC[q + 9]? = some (.inr (.inl (300, 0))) ∧ LayC[q + 10]? = some (.inr (.inl (300, 0))) ∧ LayC[q + 11]? = some (.inr (.inl (300, 0))) ∧ 20 < q
theorem st_21 : st_ok 21 := ⟨rfl, rfl, rfl, rfl, rfl, rfl, rfl, rfl, rfl, rfl, rfl, rfl, by decide⟩
theorem st_33 : st_ok 33 := ⟨rfl, rfl, rfl, rfl, rfl, rfl, rfl, rfl, rfl, rfl, rfl, rfl, by decide⟩
theorem st_45 : st_ok 45 := ⟨rfl, rfl, rfl, rfl, rfl, rfl, rfl, rfl, rfl, rfl, rfl, rfl, by decide⟩
theorem st_57 : st_ok 57 := ⟨rfl, rfl, rfl, rfl, rfl, rfl, rfl, rfl, rfl, rfl, rfl, rfl, by decide⟩
theorem rm_le {a b c d : Nat} (h : Nat.ble a b = true) (h2 : Nat.ble c d = true) : a ≤ b ∧ c ≤ d := ⟨Nat.le_of_ble_eq_true h, Nat.le_of_ble_eq_true h2⟩
/-- a set element by k: what the memory holds -/
theorem gs_same (M : rf_Mem) (q k : Nat) (v : Int32) : rf_set M q k v q k = v := by simp [rf_set, rf_row, upd]
theorem gs_k (M : rf_Mem) (q : Nat) {k j : Nat} (v : Int32) (h : j ≠ k) : rf_set M q k v q j = M q j := by simp [rf_set, rf_row, upd, h]
theorem gs_q (M : rf_Mem) {q a : Nat} (k : Nat) (v : Int32) (h : a ≠ q) : rf_set M q k v a = M a := by simp [rf_set, rf_row, h]
theorem gr_same (M : rf_Mem) (q : Nat) (f : Nat → Int32) : rf_row M q f q = f := by simp [rf_row]
theorem gr_q (M : rf_Mem) {q a : Nat} (f : Nat → Int32) (h : a ≠ q) : rf_row M q f a = M a := by simp [rf_row, h]
end
section
/-! plain facts on numbers and arrays, to paste: each family by itself; over the kit's rows on nI and upd -/
/-! ===== order of ints, in all its forms, and through longs ===== -/
theorem fa_lt (a b : Int32) : a < b ↔ a.toInt < b.toInt := Int32.lt_iff_toInt_lt
theorem fa_le (a b : Int32) : a ≤ b ↔ a.toInt ≤ b.toInt := Int32.le_iff_toInt_le
theorem fa_eq (a b : Int32) : a = b ↔ a.toInt = b.toInt := Int32.toInt_inj.symm
theorem fa_lt64 (a b : Int64) : a < b ↔ a.toInt < b.toInt := Int64.lt_iff_toInt_lt
theorem fa_le64 (a b : Int64) : a ≤ b ↔ a.toInt ≤ b.toInt := Int64.le_iff_toInt_le
theorem fa_eq64 (a b : Int64) : a = b ↔ a.toInt = b.toInt := Int64.toInt_inj.symm
/-- a comparison of two ints taken as longs -/
theorem fa_wide_lt (a b : Int32) : a.toInt64 < b.toInt64 ↔ a < b := by rw [fa_lt64, fa_lt, Int32.toInt_toInt64, Int32.toInt_toInt64]
theorem fa_wide_le (a b : Int32) : a.toInt64 ≤ b.toInt64 ↔ a ≤ b := by rw [fa_le64, fa_le, Int32.toInt_toInt64, Int32.toInt_toInt64]
theorem fa_wide_eq (a b : Int32) : a.toInt64 = b.toInt64 ↔ a = b := by rw [fa_eq64, fa_eq, Int32.toInt_toInt64, Int32.toInt_toInt64]
/-- one strict comparison gives all the others -/
theorem fa_of_lt {a b : Int32} (h : a < b) : a ≤ b ∧ ¬ b ≤ a ∧ ¬ b < a ∧ a ≠ b ∧ b ≠ a := by
  rw [fa_lt] at h
  refine ⟨?_, ?_, ?_, ?_, ?_⟩
  · rw [fa_le]; omega
  · rw [fa_le]; omega
  · rw [fa_lt]; omega
  · intro e; rw [fa_eq] at e; omega
  · intro e; rw [fa_eq] at e; omega
theorem fa_of_nlt {a b : Int32} (h : ¬ a < b) : b ≤ a := by
  rw [fa_lt] at h
  rw [fa_le]
  omega
theorem fa_of_nle {a b : Int32} (h : ¬ a ≤ b) : b < a := by
  rw [fa_le] at h
  rw [fa_lt]
  omega
theorem fa_le_ne {a b : Int32} (h : a ≤ b) (h2 : a ≠ b) : a < b := by
  rw [fa_le] at h
  rw [fa_lt]
  have h3 : a.toInt ≠ b.toInt := fun e => h2 ((fa_eq a b).mpr e)
  omega
theorem fa_three (a b : Int32) : a < b ∨ a = b ∨ b < a := by
  rw [fa_lt, fa_lt, fa_eq]
  omega
theorem fa_trans {a b c : Int32} (h : a < b) (h2 : b ≤ c) : a < c := by
  rw [fa_lt] at *
  rw [fa_le] at h2
  omega
/-! ===== small literals as numbers ===== -/
theorem fa_lit (n : Nat) : (OfNat.ofNat n : Int32) = nI n := rfl
theorem fa_litL (n : Nat) : (OfNat.ofNat n : Int64) = lN n := rfl
/-! ===== bits of a number: 'or', masks, one bit ===== -/
theorem fa_and (a b : Nat) : nI a &&& nI b = nI (a &&& b) := by
  apply Int32.toBitVec_inj.1
  show BitVec.ofNat 32 a &&& BitVec.ofNat 32 b = BitVec.ofNat 32 (a &&& b)
  apply BitVec.eq_of_getLsbD_eq
  intro i hi
  simp [hi]
theorem fa_or (a b : Nat) : nI a ||| nI b = nI (a ||| b) := by
  apply Int32.toBitVec_inj.1
  show BitVec.ofNat 32 a ||| BitVec.ofNat 32 b = BitVec.ofNat 32 (a ||| b)
  apply BitVec.eq_of_getLsbD_eq
  intro i hi
  simp [hi]
/-- a remainder by a power of two, as a mask -/
theorem fa_mask (n k : Nat) : nI n &&& nI (2 ^ k - 1) = nI (n % 2 ^ k) := by rw [fa_and, Nat.and_two_pow_sub_one_eq_mod]
/-- 'or' of a high part and a low one that don't meet is their sum -/
theorem fa_or_sum {a k : Nat} (b : Nat) (h : a < 2 ^ k) : nI (2 ^ k * b) ||| nI a = nI (2 ^ k * b + a) := by rw [fa_or, Nat.two_pow_add_eq_or_of_lt h]
/-- one bit, by 'and' with a power of two -/
theorem fa_bit {n j : Nat} (hj : j < 31) : nI n &&& nI (2 ^ j) = 0 ↔ n.testBit j = false := by
  have h2 : (2 : Nat) ^ j < 2 ^ 31 := Nat.pow_lt_pow_right (by decide) hj
  have hle : n &&& 2 ^ j ≤ 2 ^ j := Nat.and_le_right
  have e : n &&& 2 ^ j = 0 ↔ n.testBit j = false := by
    constructor
    · intro h
      have h1 : (n &&& 2 ^ j).testBit j = false := by rw [h]; simp
      rw [Nat.testBit_and] at h1
      first | simpa using h1 | simpa [Nat.testBit_two_pow_self] using h1 | simpa [Nat.testBit_two_pow] using h1
    · intro h
      apply Nat.eq_of_testBit_eq
      intro i
      rw [Nat.testBit_and]
      by_cases hi : j = i
      · subst hi; simp [h]
      · first | (simp [Nat.testBit_two_pow, hi]; done) | (simp [Nat.testBit_two_pow_of_ne hi]; done)
  rw [fa_and]
  constructor
  · intro h
    apply e.mp
    rcases Nat.eq_zero_or_pos (n &&& 2 ^ j) with z | z
    · exact z
    · exact absurd h (nI_ne0 z (Nat.lt_of_le_of_lt hle h2))
  · intro h
    rw [e.mpr h]; exact nI_0
/-- a remainder by a power of two of a number that isn't negative, as Java divides -/
theorem fa_rem {a k : Nat} (ha : a < 2 ^ 31) (hk : k < 31) : nI a - nI a / nI (2 ^ k) * nI (2 ^ k) = nI (a % 2 ^ k) := pk_rem ha (Nat.two_pow_pos k) (Nat.pow_lt_pow_right (by decide) hk)
/-! ===== cuts to a byte, a short ===== -/
theorem fa_byte_xor (x y : Int32) : (x ^^^ y).toInt8 = x.toInt8 ^^^ y.toInt8 := by
  apply Int8.toBitVec_inj.1
  apply BitVec.eq_of_getLsbD_eq
  intro i hi
  first | (simp [hi]; done) | (simp [hi, BitVec.getLsbD_setWidth, BitVec.getLsbD_signExtend]; done)
theorem fa_short_xor (x y : Int32) : (x ^^^ y).toInt16 = x.toInt16 ^^^ y.toInt16 := by
  apply Int16.toBitVec_inj.1
  apply BitVec.eq_of_getLsbD_eq
  intro i hi
  first | (simp [hi]; done) | (simp [hi, BitVec.getLsbD_setWidth, BitVec.getLsbD_signExtend]; done)
/-- the cut to a byte sees the low byte alone -/
theorem fa_byte_low (x : Int32) : (x &&& 255).toInt8 = x.toInt8 := by
  apply Int8.toBitVec_inj.1
  apply BitVec.eq_of_getLsbD_eq
  intro i hi
  have h2 : (255 : Int32).toBitVec.getLsbD i = true := by
    have : ∀ j : Fin 8, (255 : Int32).toBitVec.getLsbD j.val = true := by decide +kernel
    exact this ⟨i, hi⟩
  have h4 : (x &&& 255).toBitVec.getLsbD i = x.toBitVec.getLsbD i := by
    show (x.toBitVec &&& (255 : Int32).toBitVec).getLsbD i = _
    rw [BitVec.getLsbD_and, h2, Bool.and_true]
  have h3 : i < 32 := by omega
  first
    | (show (((x &&& 255).toBitVec).signExtend 8).getLsbD i = (x.toBitVec.signExtend 8).getLsbD i; rw [BitVec.getLsbD_signExtend, BitVec.getLsbD_signExtend, if_pos h3, if_pos h3, h4])
    | (show (((x &&& 255).toBitVec).setWidth 8).getLsbD i = (x.toBitVec.setWidth 8).getLsbD i; rw [BitVec.getLsbD_setWidth, BitVec.getLsbD_setWidth, h4])
    | (simp [hi, h3, h4]; done)
theorem fa_short_low (x : Int32) : (x &&& 65535).toInt16 = x.toInt16 := by
  apply Int16.toBitVec_inj.1
  apply BitVec.eq_of_getLsbD_eq
  intro i hi
  have h2 : (65535 : Int32).toBitVec.getLsbD i = true := by
    have : ∀ j : Fin 16, (65535 : Int32).toBitVec.getLsbD j.val = true := by decide +kernel
    exact this ⟨i, hi⟩
  have h4 : (x &&& 65535).toBitVec.getLsbD i = x.toBitVec.getLsbD i := by
    show (x.toBitVec &&& (65535 : Int32).toBitVec).getLsbD i = _
    rw [BitVec.getLsbD_and, h2, Bool.and_true]
  have h3 : i < 32 := by omega
  first
    | (show (((x &&& 65535).toBitVec).signExtend 16).getLsbD i = (x.toBitVec.signExtend 16).getLsbD i; rw [BitVec.getLsbD_signExtend, BitVec.getLsbD_signExtend, if_pos h3, if_pos h3, h4])
    | (show (((x &&& 65535).toBitVec).setWidth 16).getLsbD i = (x.toBitVec.setWidth 16).getLsbD i; rw [BitVec.getLsbD_setWidth, BitVec.getLsbD_setWidth, h4])
    | (simp [hi, h3, h4]; done)
/-- a small number is its own byte, its own short -/
theorem fa_byte_small {n : Nat} (h : n < 128) : (nI n).toInt8.toInt32 = nI n := by
  have : ∀ j : Fin 128, (nI j.val).toInt8.toInt32 = nI j.val := by decide +kernel
  exact this ⟨n, h⟩
/-! ===== absolute difference ===== -/
theorem fa_absdiff {a b : Nat} (ha : a < 2 ^ 31) (hb : b < 2 ^ 31) : (if nI a < nI b then nI b - nI a else nI a - nI b) = nI (if a < b then b - a else a - b) := by
  by_cases h : a < b
  · rw [if_pos (nI_lt h hb), if_pos h]
    exact pk_sub (Nat.le_of_lt h)
  · rw [if_neg (nI_nlt (Nat.le_of_not_lt h) ha), if_neg h]
    exact pk_sub (Nat.le_of_not_lt h)
/-! ===== an array behind i stores, a conditional store, a row copied ===== -/
/-- f where k < i, what stood there else -/
def fa_fill {α : Type} (f g : Nat → α) (i : Nat) : Nat → α := fun k => if k < i then f k else g k
theorem fa_fill_0 {α : Type} (f g : Nat → α) : fa_fill f g 0 = g := funext fun k => if_neg (Nat.not_lt_zero k)
theorem fa_fill_in {α : Type} {f g : Nat → α} {i k : Nat} (h : k < i) : fa_fill f g i k = f k := if_pos h
theorem fa_fill_out {α : Type} {f g : Nat → α} {i k : Nat} (h : i ≤ k) : fa_fill f g i k = g k := if_neg (Nat.not_lt.mpr h)
theorem fa_fill_succ (f g : Nat → Int32) (i : Nat) : upd (fa_fill f g i) i (f i) = fa_fill f g (i + 1) := by
  funext k
  by_cases e : k = i
  · subst e
    rw [pk_us]
    exact (if_pos (Nat.lt_succ_self k)).symm
  · rw [pk_un e]
    by_cases h : k < i
    · rw [fa_fill_in h, fa_fill_in (Nat.lt_succ_of_lt h)]
    · rw [fa_fill_out (Nat.le_of_not_lt h), fa_fill_out (by omega)]
/-- a store that changes nothing -/
theorem fa_upd_same {f : Nat → Int32} {i : Nat} {x : Int32} (h : f i = x) : upd f i x = f := by
  funext k
  by_cases e : k = i
  · subst e
    rw [pk_us, h]
  · rw [pk_un e]
/-- a store under a condition, told as one -/
theorem fa_upd_if (c : Prop) [Decidable c] (f : Nat → Int32) (i : Nat) (x : Int32) : (if c then upd f i x else f) = upd f i (if c then x else f i) := by
  by_cases h : c
  · rw [if_pos h, if_pos h]
  · rw [if_neg h, if_neg h, fa_upd_same rfl]
/-- two stores at one place, at two -/
theorem fa_upd_twice (f : Nat → Int32) (i : Nat) (x y : Int32) : upd (upd f i x) i y = upd f i y := by
  funext k
  by_cases e : k = i
  · subst e
    rw [pk_us, pk_us]
  · rw [pk_un e, pk_un e, pk_un e]
theorem fa_upd_swap (f : Nat → Int32) {i j : Nat} (h : i ≠ j) (x y : Int32) : upd (upd f i x) j y = upd (upd f j y) i x := by
  funext k
  by_cases e : k = i
  · subst e
    rw [pk_un h, pk_us, pk_us]
  · by_cases e2 : k = j
    · subst e2
      rw [pk_us, pk_un e, pk_us]
    · rw [pk_un e2, pk_un e, pk_un e, pk_un e2]
/-! ===== the first index with a property; a count ===== -/
/-- the first k < n with p k, n if there is none -/
def fa_first (p : Nat → Bool) : Nat → Nat
  | 0 => 0
  | n + 1 => if fa_first p n < n then fa_first p n else if p n then n else n + 1
theorem fa_first_le (p : Nat → Bool) : ∀ n, fa_first p n ≤ n
  | 0 => Nat.le_refl 0
  | n + 1 => by
    have ih := fa_first_le p n
    unfold fa_first
    split
    · omega
    · split
      · omega
      · omega
theorem fa_first_no (p : Nat → Bool) : ∀ n k, k < fa_first p n → p k = false
  | 0, k, h => absurd h (Nat.not_lt_zero k)
  | n + 1, k, h => by
    have ih := fa_first_no p n
    have hl := fa_first_le p n
    unfold fa_first at h
    split at h
    · exact ih k h
    · rename_i h1
      split at h
      · exact ih k (by omega)
      · rename_i h2
        by_cases e : k = n
        · subst e
          exact Bool.eq_false_iff.mpr h2
        · exact ih k (by omega)
theorem fa_first_yes (p : Nat → Bool) : ∀ n, fa_first p n < n → p (fa_first p n) = true
  | 0, h => absurd h (Nat.not_lt_zero _)
  | n + 1, h => by
    have ih := fa_first_yes p n
    have hl := fa_first_le p n
    unfold fa_first at h ⊢
    split at h
    · rename_i h1
      rw [if_pos h1]
      exact ih h1
    · rename_i h1
      rw [if_neg h1]
      split at h
      · rename_i h2
        rw [if_pos h2]
        exact h2
      · omega
/-- how many k < n have p k -/
def fa_cnt (p : Nat → Bool) : Nat → Nat
  | 0 => 0
  | n + 1 => fa_cnt p n + if p n then 1 else 0
theorem fa_cnt_le (p : Nat → Bool) : ∀ n, fa_cnt p n ≤ n
  | 0 => Nat.le_refl 0
  | n + 1 => by
    have ih := fa_cnt_le p n
    unfold fa_cnt
    split
    · omega
    · omega
theorem fa_cnt_yes {p : Nat → Bool} {n : Nat} (h : p n = true) : fa_cnt p (n + 1) = fa_cnt p n + 1 := by rw [fa_cnt, if_pos h]
theorem fa_cnt_no {p : Nat → Bool} {n : Nat} (h : p n = false) : fa_cnt p (n + 1) = fa_cnt p n := by rw [fa_cnt, if_neg (by rw [h]; decide)]; rfl
theorem fa_cnt_cong {p q : Nat → Bool} : ∀ {n : Nat}, (∀ k, k < n → p k = q k) → fa_cnt p n = fa_cnt q n
  | 0, _ => rfl
  | n + 1, h => by rw [fa_cnt, fa_cnt, fa_cnt_cong (fun k hk => h k (Nat.lt_succ_of_lt hk)), h n (Nat.lt_succ_self n)]
/-! ===== an answer carried into a post; a branch on a boolean answer ===== -/
theorem fa_post {α : Type} {P : α → Prop} {x y : α} (h : x = y) (hp : P y) : P x := h ▸ hp
theorem fa_post2 {α β : Type} {P : α → β → Prop} {x y : α} {u v : β} (h : x = y) (h2 : u = v) (hp : P y v) : P x u := h ▸ h2 ▸ hp
theorem fa_bool {r : Int32} {b : Bool} (h : r = if b then 1 else 0) : (r = 0 ↔ b = false) ∧ (¬ r = 0 ↔ b = true) := by
  subst h
  cases b
  · exact ⟨⟨fun _ => rfl, fun _ => rfl⟩, ⟨fun h => absurd rfl h, fun h => absurd h (by decide)⟩⟩
  · exact ⟨⟨fun h => absurd h (by decide), fun h => absurd h (by decide)⟩, ⟨fun _ => rfl, fun _ => by decide⟩⟩
/-- a boolean's narrowing changes nothing -/
theorem fa_bool_and {r : Int32} (h : r = 0 ∨ r = 1) : r &&& 1 = r := by
  rcases h with rfl | rfl
  · decide
  · decide
theorem fa_bool_prop {c : Prop} [Decidable c] {r : Int32} (h : r = if c then 1 else 0) : (r = 0 ↔ ¬ c) ∧ (¬ r = 0 ↔ c) := by
  subst h
  by_cases hc : c
  · rw [if_pos hc]
    exact ⟨⟨fun h => absurd h (by decide), fun h => absurd hc h⟩, ⟨fun _ => hc, fun _ => by decide⟩⟩
  · rw [if_neg hc]
    exact ⟨⟨fun _ => hc, fun _ => rfl⟩, ⟨fun h => absurd rfl h, fun h => absurd h hc⟩⟩
/-! plain facts to paste, each family by itself; over the kit's nI, lN and upd -/
/-! ===== drawers: more things than places ===== -/
theorem fb_holes : ∀ (m n : Nat) (f : Nat → Nat), (∀ i, i < n → f i < m) → (∀ i j, i < j → j < n → f i ≠ f j) → n ≤ m := by
  intro m
  induction m with
  | zero =>
    intro n f h1 _
    rcases Nat.eq_zero_or_pos n with h | h
    · omega
    · exact absurd (h1 0 h) (Nat.not_lt_zero _)
  | succ m ih =>
    intro n f h1 h2
    by_cases hx : ∃ i, i < n ∧ f i = m
    · obtain ⟨a, ha, hfa⟩ := hx
      have hg := ih (n - 1) (fun i => if i < a then f i else f (i + 1)) (by
        intro i hi
        by_cases q : i < a
        · simp only [if_pos q]
          have b1 := h1 i (by omega)
          have b2 := h2 i a q ha
          omega
        · simp only [if_neg q]
          have b1 := h1 (i + 1) (by omega)
          have b2 := h2 a (i + 1) (by omega) (by omega)
          omega) (by
        intro i j hij hj
        by_cases q : i < a
        · by_cases r : j < a
          · simp only [if_pos q, if_pos r]
            exact h2 i j hij (by omega)
          · simp only [if_pos q, if_neg r]
            exact h2 i (j + 1) (by omega) (by omega)
        · have r : ¬ j < a := by omega
          simp only [if_neg q, if_neg r]
          exact h2 (i + 1) (j + 1) (by omega) (by omega))
      omega
    · have hg := ih n f (fun i hi => by
        have b1 := h1 i hi
        have b2 : f i ≠ m := fun e => hx ⟨i, hi, e⟩
        omega) h2
      omega
/-- two of them in one place -/
theorem fb_twice {m n : Nat} {f : Nat → Nat} (h : ∀ i, i < n → f i < m) (hm : m < n) : ∃ i j, i < j ∧ j < n ∧ f i = f j := by
  refine Classical.byContradiction fun hx => ?_
  have := fb_holes m n f h (fun i j hij hj e => hx ⟨i, j, hij, hj, e⟩)
  omega
/-- as many as places, none twice: each place is taken -/
theorem fb_onto {n : Nat} {f : Nat → Nat} (h : ∀ i, i < n → f i < n) (h2 : ∀ i j, i < j → j < n → f i ≠ f j) {y : Nat} (hy : y < n) : ∃ i, i < n ∧ f i = y := by
  refine Classical.byContradiction fun hx => ?_
  have hne : ∀ i, i < n → f i ≠ y := fun i hi e => hx ⟨i, hi, e⟩
  have := fb_holes (n - 1) n (fun i => if f i < y then f i else f i - 1) (by
    intro i hi
    have b1 := h i hi
    have b2 := hne i hi
    by_cases q : f i < y
    · simp only [if_pos q]; omega
    · simp only [if_neg q]; omega) (by
    intro i j hij hj
    have b1 := hne i (by omega)
    have b2 := hne j hj
    have b3 := h2 i j hij hj
    by_cases q : f i < y
    · by_cases r : f j < y
      · simp only [if_pos q, if_pos r]; exact b3
      · simp only [if_pos q, if_neg r]; omega
    · by_cases r : f j < y
      · simp only [if_neg q, if_pos r]; omega
      · simp only [if_neg q, if_neg r]; omega)
  omega
/-! ===== how many places have a property ===== -/
def fb_ct (p : Nat → Bool) : Nat → Nat
  | 0 => 0
  | n + 1 => fb_ct p n + (if p n then 1 else 0)
theorem fb_ct_succ (p : Nat → Bool) (n : Nat) : fb_ct p (n + 1) = fb_ct p n + (if p n then 1 else 0) := rfl
theorem fb_ct_le (p : Nat → Bool) : ∀ n, fb_ct p n ≤ n
  | 0 => Nat.le_refl _
  | n + 1 => by
    have h := fb_ct_le p n
    rw [fb_ct_succ]
    split <;> omega
theorem fb_ct_step (p : Nat → Bool) (m : Nat) : ∀ n, fb_ct p m ≤ fb_ct p (m + n)
  | 0 => Nat.le_refl _
  | n + 1 => by
    have h := fb_ct_step p m n
    show fb_ct p m ≤ fb_ct p (m + n + 1)
    rw [fb_ct_succ]
    omega
theorem fb_ct_mono (p : Nat → Bool) {m n : Nat} (h : m ≤ n) : fb_ct p m ≤ fb_ct p n := by
  have := fb_ct_step p m (n - m)
  rwa [Nat.add_sub_cancel' h] at this
theorem fb_ct_cong {p q : Nat → Bool} : ∀ {n : Nat}, (∀ k, k < n → p k = q k) → fb_ct p n = fb_ct q n
  | 0, _ => rfl
  | n + 1, h => by
    rw [fb_ct_succ, fb_ct_succ, fb_ct_cong (fun k hk => h k (by omega)), h n (by omega)]
/-- one place changed -/
theorem fb_ct_out (p : Nat → Bool) (b : Bool) {i n : Nat} (h : n ≤ i) : fb_ct (fun k => if k = i then b else p k) n = fb_ct p n :=
  fb_ct_cong fun k hk => if_neg (by omega)
theorem fb_ct_upd (p : Nat → Bool) (b : Bool) {i : Nat} : ∀ {n : Nat}, i < n → fb_ct (fun k => if k = i then b else p k) n + (if p i then 1 else 0) = fb_ct p n + (if b then 1 else 0)
  | 0, h => absurd h (Nat.not_lt_zero i)
  | n + 1, h => by
    rw [fb_ct_succ, fb_ct_succ]
    rcases Nat.lt_or_ge i n with q | q
    · have := fb_ct_upd p b q
      have e : (if n = i then b else p n) = p n := if_neg (by omega)
      rw [e]
      omega
    · have e : i = n := by omega
      subst e
      rw [fb_ct_out p b (Nat.le_refl _)]
      simp only [if_true]
      omega
theorem fb_ct_sub {p q : Nat → Bool} : ∀ {n : Nat}, (∀ k, k < n → p k = true → q k = true) → fb_ct p n ≤ fb_ct q n
  | 0, _ => Nat.le_refl _
  | n + 1, h => by
    have h1 := fb_ct_sub (n := n) (p := p) (q := q) (fun k hk => h k (by omega))
    have h2 := h n (by omega)
    rw [fb_ct_succ, fb_ct_succ]
    cases hp : p n <;> cases hq : q n <;> simp_all <;> omega
theorem fb_ct_or {p q : Nat → Bool} : ∀ {n : Nat}, (∀ k, k < n → ¬ (p k = true ∧ q k = true)) → fb_ct (fun k => p k || q k) n = fb_ct p n + fb_ct q n
  | 0, _ => rfl
  | n + 1, h => by
    have h1 := fb_ct_or (n := n) (p := p) (q := q) (fun k hk => h k (by omega))
    have h2 := h n (by omega)
    rw [fb_ct_succ, fb_ct_succ, fb_ct_succ, h1]
    cases hp : p n <;> cases hq : q n <;> simp_all <;> omega
theorem fb_ct_not (p : Nat → Bool) : ∀ n, fb_ct p n + fb_ct (fun k => !p k) n = n
  | 0 => rfl
  | n + 1 => by
    have h := fb_ct_not p n
    rw [fb_ct_succ, fb_ct_succ]
    cases p n <;> simp <;> omega
theorem fb_ct_split (p : Nat → Bool) (m : Nat) : ∀ n, fb_ct p (m + n) = fb_ct p m + fb_ct (fun k => p (m + k)) n
  | 0 => rfl
  | n + 1 => by
    have h := fb_ct_split p m n
    show fb_ct p (m + n + 1) = _
    rw [fb_ct_succ, fb_ct_succ, h, Nat.add_assoc]
theorem fb_ct_zero {p : Nat → Bool} : ∀ {n : Nat}, fb_ct p n = 0 ↔ ∀ k, k < n → p k = false
  | 0 => ⟨fun _ k hk => absurd hk (Nat.not_lt_zero k), fun _ => rfl⟩
  | n + 1 => by
    have h := fb_ct_zero (p := p) (n := n)
    rw [fb_ct_succ]
    constructor
    · intro e k hk
      have e1 : fb_ct p n = 0 := by omega
      rcases Nat.lt_or_ge k n with q | q
      · exact h.mp e1 k q
      · have ek : k = n := by omega
        subst ek
        cases hp : p k
        · rfl
        · simp [hp] at e
    · intro a
      rw [h.mpr (fun k hk => a k (by omega)), a n (by omega)]
      rfl
theorem fb_ct_pos {p : Nat → Bool} {n : Nat} : 0 < fb_ct p n ↔ ∃ k, k < n ∧ p k = true := by
  constructor
  · intro h
    refine Classical.byContradiction fun hx => ?_
    have := fb_ct_zero.mpr (fun k hk => by
      cases hp : p k
      · rfl
      · exact absurd ⟨k, hk, hp⟩ hx : ∀ k, k < n → p k = false)
    omega
  · rintro ⟨k, hk, hp⟩
    rcases Nat.eq_zero_or_pos (fb_ct p n) with e | e
    · have := fb_ct_zero.mp e k hk
      rw [this] at hp
      cases hp
    · exact e
theorem fb_ct_all {p : Nat → Bool} {n : Nat} : fb_ct p n = n ↔ ∀ k, k < n → p k = true := by
  have h := fb_ct_not p n
  constructor
  · intro e k hk
    have z : fb_ct (fun k => !p k) n = 0 := by omega
    have := fb_ct_zero.mp z k hk
    cases hp : p k
    · simp [hp] at this
    · rfl
  · intro a
    have z : fb_ct (fun k => !p k) n = 0 := fb_ct_zero.mpr (fun k hk => by simp [a k hk])
    omega
/-- the k-th place with the property -/
theorem fb_ct_kth {p : Nat → Bool} {k : Nat} : ∀ {n : Nat}, k < fb_ct p n → ∃ i, i < n ∧ p i = true ∧ fb_ct p i = k
  | 0, h => absurd h (Nat.not_lt_zero k)
  | n + 1, h => by
    rcases Nat.lt_or_ge k (fb_ct p n) with q | q
    · obtain ⟨i, h1, h2⟩ := fb_ct_kth q
      exact ⟨i, by omega, h2⟩
    · rw [fb_ct_succ] at h
      cases hp : p n
      · simp [hp] at h; omega
      · simp [hp] at h
        exact ⟨n, by omega, hp, by omega⟩
theorem fb_ct_kth_one {p : Nat → Bool} {i j : Nat} (hi : p i = true) (hj : p j = true) (e : fb_ct p i = fb_ct p j) : i = j := by
  have key : ∀ a b : Nat, a < b → p a = true → fb_ct p a < fb_ct p b := by
    intro a b hab ha
    have h := fb_ct_mono p (show a + 1 ≤ b from hab)
    rw [fb_ct_succ, ha] at h
    simp at h
    omega
  rcases Nat.lt_trichotomy i j with q | q | q
  · have := key i j q hi; omega
  · exact q
  · have := key j i q hj; omega
/-! ===== sums over a range: one place changed, parts, bounds ===== -/
def fb_sm (f : Nat → Nat) : Nat → Nat
  | 0 => 0
  | n + 1 => fb_sm f n + f n
theorem fb_sm_succ (f : Nat → Nat) (n : Nat) : fb_sm f (n + 1) = fb_sm f n + f n := rfl
theorem fb_sm_cong {f g : Nat → Nat} : ∀ {n : Nat}, (∀ k, k < n → f k = g k) → fb_sm f n = fb_sm g n
  | 0, _ => rfl
  | n + 1, h => by rw [fb_sm_succ, fb_sm_succ, fb_sm_cong (fun k hk => h k (by omega)), h n (by omega)]
theorem fb_sm_out (f : Nat → Nat) (v : Nat) {i n : Nat} (h : n ≤ i) : fb_sm (fun k => if k = i then v else f k) n = fb_sm f n :=
  fb_sm_cong fun k hk => if_neg (by omega)
theorem fb_sm_upd (f : Nat → Nat) (v : Nat) {i : Nat} : ∀ {n : Nat}, i < n → fb_sm (fun k => if k = i then v else f k) n + f i = fb_sm f n + v
  | 0, h => absurd h (Nat.not_lt_zero i)
  | n + 1, h => by
    rw [fb_sm_succ, fb_sm_succ]
    rcases Nat.lt_or_ge i n with q | q
    · have := fb_sm_upd f v q
      have e : (if n = i then v else f n) = f n := if_neg (by omega)
      rw [e]
      omega
    · have e : i = n := by omega
      subst e
      rw [fb_sm_out f v (Nat.le_refl _)]
      simp only [if_true]
      omega
theorem fb_sm_add (f g : Nat → Nat) : ∀ n, fb_sm (fun k => f k + g k) n = fb_sm f n + fb_sm g n
  | 0 => rfl
  | n + 1 => by
    have h := fb_sm_add f g n
    rw [fb_sm_succ, fb_sm_succ, fb_sm_succ, h]
    omega
theorem fb_sm_le {f g : Nat → Nat} : ∀ {n : Nat}, (∀ k, k < n → f k ≤ g k) → fb_sm f n ≤ fb_sm g n
  | 0, _ => Nat.le_refl _
  | n + 1, h => by
    have h1 := fb_sm_le (n := n) (f := f) (g := g) (fun k hk => h k (by omega))
    have h2 := h n (by omega)
    rw [fb_sm_succ, fb_sm_succ]
    omega
theorem fb_sm_const (c : Nat) : ∀ n, fb_sm (fun _ => c) n = n * c
  | 0 => by rw [Nat.zero_mul]; rfl
  | n + 1 => by rw [fb_sm_succ, fb_sm_const c n, Nat.succ_mul]
theorem fb_sm_bound {f : Nat → Nat} {c n : Nat} (h : ∀ k, k < n → f k ≤ c) : fb_sm f n ≤ n * c := by
  rw [← fb_sm_const c n]
  exact fb_sm_le h
theorem fb_sm_mono (f : Nat → Nat) (m : Nat) : ∀ n, fb_sm f m ≤ fb_sm f (m + n)
  | 0 => Nat.le_refl _
  | n + 1 => by
    have h := fb_sm_mono f m n
    show fb_sm f m ≤ fb_sm f (m + n + 1)
    rw [fb_sm_succ]
    omega
theorem fb_sm_part (f : Nat → Nat) {i n : Nat} (h : i < n) : fb_sm f i + f i ≤ fb_sm f n := by
  have := fb_sm_mono f (i + 1) (n - (i + 1))
  rw [fb_sm_succ, show i + 1 + (n - (i + 1)) = n by omega] at this
  exact this
theorem fb_sm_split (f : Nat → Nat) (m : Nat) : ∀ n, fb_sm f (m + n) = fb_sm f m + fb_sm (fun k => f (m + k)) n
  | 0 => rfl
  | n + 1 => by
    have h := fb_sm_split f m n
    show fb_sm f (m + n + 1) = _
    rw [fb_sm_succ, fb_sm_succ, h, Nat.add_assoc]
theorem fb_sm_zero {f : Nat → Nat} {n : Nat} (h : fb_sm f n = 0) : ∀ k, k < n → f k = 0 := fun k hk => by
  have := fb_sm_part f hk
  omega
/-- the same over whole numbers -/
def fb_si (f : Nat → Int) : Nat → Int
  | 0 => 0
  | n + 1 => fb_si f n + f n
theorem fb_si_succ (f : Nat → Int) (n : Nat) : fb_si f (n + 1) = fb_si f n + f n := rfl
theorem fb_si_cong {f g : Nat → Int} : ∀ {n : Nat}, (∀ k, k < n → f k = g k) → fb_si f n = fb_si g n
  | 0, _ => rfl
  | n + 1, h => by rw [fb_si_succ, fb_si_succ, fb_si_cong (fun k hk => h k (by omega)), h n (by omega)]
theorem fb_si_out (f : Nat → Int) (v : Int) {i n : Nat} (h : n ≤ i) : fb_si (fun k => if k = i then v else f k) n = fb_si f n :=
  fb_si_cong fun k hk => if_neg (by omega)
theorem fb_si_upd (f : Nat → Int) (v : Int) {i : Nat} : ∀ {n : Nat}, i < n → fb_si (fun k => if k = i then v else f k) n = fb_si f n - f i + v
  | 0, h => absurd h (Nat.not_lt_zero i)
  | n + 1, h => by
    rw [fb_si_succ, fb_si_succ]
    rcases Nat.lt_or_ge i n with q | q
    · have := fb_si_upd f v q
      have e : (if n = i then v else f n) = f n := if_neg (by omega)
      rw [e]
      omega
    · have e : i = n := by omega
      subst e
      rw [fb_si_out f v (Nat.le_refl _)]
      simp only [if_true]
      omega
theorem fb_si_add (f g : Nat → Int) : ∀ n, fb_si (fun k => f k + g k) n = fb_si f n + fb_si g n
  | 0 => rfl
  | n + 1 => by
    have h := fb_si_add f g n
    rw [fb_si_succ, fb_si_succ, fb_si_succ, h]
    omega
theorem fb_si_sub (f g : Nat → Int) : ∀ n, fb_si (fun k => f k - g k) n = fb_si f n - fb_si g n
  | 0 => rfl
  | n + 1 => by
    have h := fb_si_sub f g n
    rw [fb_si_succ, fb_si_succ, fb_si_succ, h]
    omega
theorem fb_si_mul (c : Int) (f : Nat → Int) : ∀ n, fb_si (fun k => c * f k) n = c * fb_si f n
  | 0 => (Int.mul_zero c).symm
  | n + 1 => by
    have h := fb_si_mul c f n
    rw [fb_si_succ, fb_si_succ, h, Int.mul_add]
theorem fb_si_split (f : Nat → Int) (m : Nat) : ∀ n, fb_si f (m + n) = fb_si f m + fb_si (fun k => f (m + k)) n
  | 0 => (Int.add_zero _).symm
  | n + 1 => by
    have h := fb_si_split f m n
    show fb_si f (m + n + 1) = _
    rw [fb_si_succ, fb_si_succ, h, Int.add_assoc]
theorem fb_si_nat (f : Nat → Nat) : ∀ n, fb_si (fun k => (f k : Int)) n = (fb_sm f n : Int)
  | 0 => rfl
  | n + 1 => by
    have h := fb_si_nat f n
    rw [fb_si_succ, fb_sm_succ, h]
    omega
theorem fb_si_bound {f : Nat → Int} {c : Int} (hc : 0 ≤ c) : ∀ {n : Nat}, (∀ k, k < n → -c ≤ f k ∧ f k ≤ c) → -(n * c) ≤ fb_si f n ∧ fb_si f n ≤ n * c
  | 0, _ => by simp [fb_si]
  | n + 1, h => by
    have h1 := fb_si_bound (n := n) (f := f) hc (fun k hk => h k (by omega))
    have h2 := h n (by omega)
    have e : ((n + 1 : Nat) : Int) * c = n * c + c := by rw [Int.natCast_add, Int.add_mul]; simp
    rw [fb_si_succ, e]
    omega
/-! ===== bits of a long that isn't negative ===== -/
theorem fb_andL (a b : Nat) : lN a &&& lN b = lN (a &&& b) := by
  apply Int64.toBitVec_inj.1
  show BitVec.ofNat 64 a &&& BitVec.ofNat 64 b = BitVec.ofNat 64 (a &&& b)
  apply BitVec.eq_of_getLsbD_eq
  intro i hi
  simp [hi]
theorem fb_orL (a b : Nat) : lN a ||| lN b = lN (a ||| b) := by
  apply Int64.toBitVec_inj.1
  show BitVec.ofNat 64 a ||| BitVec.ofNat 64 b = BitVec.ofNat 64 (a ||| b)
  apply BitVec.eq_of_getLsbD_eq
  intro i hi
  simp [hi]
theorem fb_xorL (a b : Nat) : lN a ^^^ lN b = lN (a ^^^ b) := by
  apply Int64.toBitVec_inj.1
  show BitVec.ofNat 64 a ^^^ BitVec.ofNat 64 b = BitVec.ofNat 64 (a ^^^ b)
  apply BitVec.eq_of_getLsbD_eq
  intro i hi
  simp [hi]
theorem fb_xorI (a b : Nat) : nI a ^^^ nI b = nI (a ^^^ b) := by
  apply Int32.toBitVec_inj.1
  show BitVec.ofNat 32 a ^^^ BitVec.ofNat 32 b = BitVec.ofNat 32 (a ^^^ b)
  apply BitVec.eq_of_getLsbD_eq
  intro i hi
  simp [hi]
theorem fb_maskL (n k : Nat) : lN n &&& lN (2 ^ k - 1) = lN (n % 2 ^ k) := by rw [fb_andL, Nat.and_two_pow_sub_one_eq_mod]
theorem fb_or_sumL {a k : Nat} (b : Nat) (h : a < 2 ^ k) : lN (2 ^ k * b) ||| lN a = lN (2 ^ k * b + a) := by rw [fb_orL, Nat.two_pow_add_eq_or_of_lt h]
theorem fb_lN_inj {a b : Nat} (ha : a < 2 ^ 63) (hb : b < 2 ^ 63) : lN a = lN b ↔ a = b := by
  constructor
  · intro h
    have h1 : (BitVec.ofNat 64 a).toNat = (BitVec.ofNat 64 b).toNat := congrArg (fun x : Int64 => x.toBitVec.toNat) h
    rw [BitVec.toNat_ofNat, BitVec.toNat_ofNat, Nat.mod_eq_of_lt (by omega), Nat.mod_eq_of_lt (by omega)] at h1
    exact h1
  · rintro rfl; rfl
theorem fb_bit_nat (n j : Nat) : n &&& 2 ^ j = 0 ↔ n.testBit j = false := by
  constructor
  · intro h
    have h1 : (n &&& 2 ^ j).testBit j = false := by rw [h]; simp
    rw [Nat.testBit_and] at h1
    simpa using h1
  · intro h
    apply Nat.eq_of_testBit_eq
    intro i
    rw [Nat.testBit_and]
    by_cases hi : j = i
    · subst hi; simp [h]
    · first | (simp [Nat.testBit_two_pow, hi]; done) | (simp [Nat.testBit_two_pow_of_ne hi]; done)
/-- one bit of a long -/
theorem fb_bitL {n j : Nat} (hj : j < 63) : lN n &&& lN (2 ^ j) = 0 ↔ n.testBit j = false := by
  have h2 : (2 : Nat) ^ j < 2 ^ 63 := Nat.pow_lt_pow_right (by decide) hj
  have hle : n &&& 2 ^ j ≤ 2 ^ j := Nat.and_le_right
  rw [fb_andL, ← fb_bit_nat, show (0 : Int64) = lN 0 from rfl]
  exact fb_lN_inj (by omega) (by decide)
/-- a bit set, a bit taken off -/
theorem fb_bit_set (n j i : Nat) : (n ||| 2 ^ j).testBit i = (n.testBit i || decide (i = j)) := by
  rw [Nat.testBit_or]
  by_cases h : j = i
  · subst h; simp
  · have h2 : ¬ i = j := fun e => h e.symm
    first | (simp [Nat.testBit_two_pow, h, h2]; done) | (simp [Nat.testBit_two_pow_of_ne h, h2]; done)
theorem fb_bit_flip (n j i : Nat) : (n ^^^ 2 ^ j).testBit i = (n.testBit i ^^ decide (i = j)) := by
  rw [Nat.testBit_xor]
  by_cases h : j = i
  · subst h; simp
  · have h2 : ¬ i = j := fun e => h e.symm
    first | (simp [Nat.testBit_two_pow, h, h2]; done) | (simp [Nat.testBit_two_pow_of_ne h, h2]; done)
/-! ===== a stretch of an array written over by a function ===== -/
def fb_put {α : Type} (f g : Nat → α) (a n : Nat) : Nat → α := fun k => if a ≤ k ∧ k < a + n then g (k - a) else f k
theorem fb_put_0 {α : Type} (f g : Nat → α) (a : Nat) : fb_put f g a 0 = f := funext fun k => if_neg (by omega)
theorem fb_put_in {α : Type} {f g : Nat → α} {a n k : Nat} (h1 : a ≤ k) (h2 : k < a + n) : fb_put f g a n k = g (k - a) := if_pos ⟨h1, h2⟩
theorem fb_put_out {α : Type} {f g : Nat → α} {a n k : Nat} (h : k < a ∨ a + n ≤ k) : fb_put f g a n k = f k := if_neg (by omega)
theorem fb_put_succ (f g : Nat → Int32) (a n : Nat) : upd (fb_put f g a n) (a + n) (g n) = fb_put f g a (n + 1) := by
  funext k
  by_cases h : k = a + n
  · subst h
    simp [upd, fb_put]
  · by_cases h1 : a ≤ k ∧ k < a + n
    · have h2 : a ≤ k ∧ k < a + (n + 1) := by omega
      simp only [upd, fb_put, if_neg h, if_pos h1, if_pos h2]
    · have h2 : ¬ (a ≤ k ∧ k < a + (n + 1)) := by omega
      simp only [upd, fb_put, if_neg h, if_neg h1, if_neg h2]
/-- .. from the far end down -/
theorem fb_put_down (f g : Nat → Int32) {a n m : Nat} (h : m < n) : upd (fb_put f (fun k => g (k + (m + 1))) (a + (m + 1)) (n - (m + 1))) (a + m) (g m) = fb_put f (fun k => g (k + m)) (a + m) (n - m) := by
  funext k
  by_cases h0 : k = a + m
  · subst h0
    simp only [upd, if_true]
    rw [fb_put_in (by omega) (by omega)]
    exact congrArg g (by omega)
  · simp only [upd, if_neg h0]
    by_cases h1 : a + (m + 1) ≤ k ∧ k < a + (m + 1) + (n - (m + 1))
    · rw [fb_put_in h1.1 h1.2, fb_put_in (by omega) (by omega)]
      exact congrArg g (by omega)
    · rw [fb_put_out (by omega), fb_put_out (by omega)]
theorem fb_put_cong {α : Type} {f f2 g g2 : Nat → α} {a n : Nat} (hf : ∀ k, (k < a ∨ a + n ≤ k) → f k = f2 k) (hg : ∀ k, k < n → g k = g2 k) : fb_put f g a n = fb_put f2 g2 a n := by
  funext k
  by_cases h : a ≤ k ∧ k < a + n
  · rw [fb_put_in h.1 h.2, fb_put_in h.1 h.2, hg _ (by omega)]
  · rw [fb_put_out (by omega), fb_put_out (by omega), hf _ (by omega)]
/-! ===== the least, the first, the best so far; that there is one alone ===== -/
theorem fb_first {p : Nat → Prop} [DecidablePred p] : ∀ {n : Nat}, (∃ i, i < n ∧ p i) → ∃ i, i < n ∧ p i ∧ ∀ j, j < i → ¬ p j
  | 0, h => by obtain ⟨i, hi, -⟩ := h; exact absurd hi (Nat.not_lt_zero i)
  | n + 1, h => by
    by_cases q : ∃ i, i < n ∧ p i
    · obtain ⟨i, h1, h2⟩ := fb_first q
      exact ⟨i, by omega, h2⟩
    · obtain ⟨i, h1, h2⟩ := h
      have e : i = n := by
        rcases Nat.lt_or_ge i n with r | r
        · exact absurd ⟨i, r, h2⟩ q
        · omega
      subst e
      exact ⟨i, by omega, h2, fun j hj hp => q ⟨j, hj, hp⟩⟩
theorem fb_first_one {p : Nat → Prop} {i j : Nat} (hi : p i) (hi2 : ∀ k, k < i → ¬ p k) (hj : p j) (hj2 : ∀ k, k < j → ¬ p k) : i = j := by
  rcases Nat.lt_trichotomy i j with q | q | q
  · exact absurd hi (hj2 i q)
  · exact q
  · exact absurd hj (hi2 j q)
theorem fb_last {p : Nat → Prop} [DecidablePred p] : ∀ {n : Nat}, (∃ i, i < n ∧ p i) → ∃ i, i < n ∧ p i ∧ ∀ j, i < j → j < n → ¬ p j
  | 0, h => by obtain ⟨i, hi, -⟩ := h; exact absurd hi (Nat.not_lt_zero i)
  | n + 1, h => by
    by_cases q : p n
    · exact ⟨n, by omega, q, fun j h1 h2 => by omega⟩
    · obtain ⟨i, h1, h2⟩ := h
      have hi : i < n := by
        rcases Nat.lt_or_ge i n with r | r
        · exact r
        · have e : i = n := by omega
          subst e
          exact absurd h2 q
      obtain ⟨i2, a1, a2, a3⟩ := fb_last (n := n) ⟨i, hi, h2⟩
      refine ⟨i2, by omega, a2, fun j b1 b2 => ?_⟩
      rcases Nat.lt_or_ge j n with r | r
      · exact a3 j b1 r
      · have e : j = n := by omega
        subst e
        exact q
/-- the first greatest -/
theorem fb_best (f : Nat → Int) : ∀ {n : Nat}, 0 < n → ∃ i, i < n ∧ (∀ j, j < n → f j ≤ f i) ∧ ∀ j, j < i → f j < f i
  | 0, h => absurd h (Nat.lt_irrefl 0)
  | 1, _ => ⟨0, by omega, fun j hj => by have e : j = 0 := by omega
                                         subst e; exact Int.le_refl _, fun j hj => absurd hj (Nat.not_lt_zero j)⟩
  | n + 2, _ => by
    obtain ⟨i, h1, h2, h3⟩ := fb_best f (n := n + 1) (by omega)
    by_cases q : f i < f (n + 1)
    · refine ⟨n + 1, by omega, fun j hj => ?_, fun j hj => ?_⟩
      · rcases Nat.lt_or_ge j (n + 1) with r | r
        · have := h2 j r; omega
        · have e : j = n + 1 := by omega
          subst e; exact Int.le_refl _
      · have := h2 j hj; omega
    · refine ⟨i, by omega, fun j hj => ?_, h3⟩
      rcases Nat.lt_or_ge j (n + 1) with r | r
      · exact h2 j r
      · have e : j = n + 1 := by omega
        subst e; omega
theorem fb_best_one {f : Nat → Int} {n i j : Nat} (hi : i < n) (hi2 : ∀ k, k < n → f k ≤ f i) (hi3 : ∀ k, k < i → f k < f i) (hj : j < n) (hj2 : ∀ k, k < n → f k ≤ f j) (hj3 : ∀ k, k < j → f k < f j) : i = j := by
  rcases Nat.lt_trichotomy i j with q | q | q
  · have a := hj3 i q
    have b := hi2 j hj
    omega
  · exact q
  · have a := hi3 j q
    have b := hj2 i hi
    omega
/-- the first least -/
theorem fb_low (f : Nat → Int) {n : Nat} (h : 0 < n) : ∃ i, i < n ∧ (∀ j, j < n → f i ≤ f j) ∧ ∀ j, j < i → f i < f j := by
  obtain ⟨i, h1, h2, h3⟩ := fb_best (fun k => -f k) h
  exact ⟨i, h1, fun j hj => by have := h2 j hj; omega, fun j hj => by have := h3 j hj; omega⟩
/-! ===== signed ints as whole numbers, within bounds ===== -/
theorem fb_rng (x : Int32) : -2147483648 ≤ x.toInt ∧ x.toInt < 2147483648 := by
  have h1 := Int32.le_toInt x
  have h2 := Int32.toInt_lt x
  omega
theorem fb_bmod {z : Int} (h1 : -2147483648 ≤ z) (h2 : z < 2147483648) : z.bmod (2 ^ 32) = z := by
  rw [Int.bmod_eq_of_le (by omega) (by omega)]
theorem fb_addI {x y : Int32} (h1 : -2147483648 ≤ x.toInt + y.toInt) (h2 : x.toInt + y.toInt < 2147483648) : (x + y).toInt = x.toInt + y.toInt := by
  rw [Int32.toInt_add, fb_bmod h1 h2]
theorem fb_subI {x y : Int32} (h1 : -2147483648 ≤ x.toInt - y.toInt) (h2 : x.toInt - y.toInt < 2147483648) : (x - y).toInt = x.toInt - y.toInt := by
  rw [Int32.toInt_sub, fb_bmod h1 h2]
theorem fb_mulI {x y : Int32} (h1 : -2147483648 ≤ x.toInt * y.toInt) (h2 : x.toInt * y.toInt < 2147483648) : (x * y).toInt = x.toInt * y.toInt := by
  rw [Int32.toInt_mul, fb_bmod h1 h2]
theorem fb_negI {x : Int32} (h : x.toInt ≠ -2147483648) : (-x).toInt = -x.toInt := by
  have := fb_rng x
  rw [Int32.toInt_neg, fb_bmod (by omega) (by omega)]
theorem fb_ofI {z : Int} (h1 : -2147483648 ≤ z) (h2 : z < 2147483648) : (Int32.ofInt z).toInt = z := by
  rw [Int32.toInt_ofInt, fb_bmod h1 h2]
theorem fb_asI (x : Int32) : Int32.ofInt x.toInt = x := Int32.ofInt_toInt x
theorem fb_rngL (x : Int64) : -9223372036854775808 ≤ x.toInt ∧ x.toInt < 9223372036854775808 := by
  have h1 := Int64.le_toInt x
  have h2 := Int64.toInt_lt x
  omega
theorem fb_bmodL {z : Int} (h1 : -9223372036854775808 ≤ z) (h2 : z < 9223372036854775808) : z.bmod (2 ^ 64) = z := by
  rw [Int.bmod_eq_of_le (by omega) (by omega)]
theorem fb_addL {x y : Int64} (h1 : -9223372036854775808 ≤ x.toInt + y.toInt) (h2 : x.toInt + y.toInt < 9223372036854775808) : (x + y).toInt = x.toInt + y.toInt := by
  rw [Int64.toInt_add, fb_bmodL h1 h2]
theorem fb_subL {x y : Int64} (h1 : -9223372036854775808 ≤ x.toInt - y.toInt) (h2 : x.toInt - y.toInt < 9223372036854775808) : (x - y).toInt = x.toInt - y.toInt := by
  rw [Int64.toInt_sub, fb_bmodL h1 h2]
theorem fb_mulL {x y : Int64} (h1 : -9223372036854775808 ≤ x.toInt * y.toInt) (h2 : x.toInt * y.toInt < 9223372036854775808) : (x * y).toInt = x.toInt * y.toInt := by
  rw [Int64.toInt_mul, fb_bmodL h1 h2]
/-! ===== cuts of what is narrow already ===== -/
theorem fb_byte {x : Int32} (h1 : -128 ≤ x.toInt) (h2 : x.toInt < 128) : x.toInt8.toInt32 = x := by
  apply Int32.toInt_inj.1
  rw [Int8.toInt_toInt32, Int32.toInt_toInt8, Int.bmod_eq_of_le (by omega) (by omega)]
theorem fb_short {x : Int32} (h1 : -32768 ≤ x.toInt) (h2 : x.toInt < 32768) : x.toInt16.toInt32 = x := by
  apply Int32.toInt_inj.1
  rw [Int16.toInt_toInt32, Int32.toInt_toInt16, Int.bmod_eq_of_le (by omega) (by omega)]
theorem fb_byte_rng (x : Int32) : -128 ≤ x.toInt8.toInt32.toInt ∧ x.toInt8.toInt32.toInt < 128 := by
  rw [Int8.toInt_toInt32]
  have h1 := Int8.le_toInt x.toInt8
  have h2 := Int8.toInt_lt x.toInt8
  omega
theorem fb_short_rng (x : Int32) : -32768 ≤ x.toInt16.toInt32.toInt ∧ x.toInt16.toInt32.toInt < 32768 := by
  rw [Int16.toInt_toInt32]
  have h1 := Int16.le_toInt x.toInt16
  have h2 := Int16.toInt_lt x.toInt16
  omega
theorem fb_byte_twice (x : Int32) : x.toInt8.toInt32.toInt8.toInt32 = x.toInt8.toInt32 := fb_byte (fb_byte_rng x).1 (fb_byte_rng x).2
theorem fb_short_twice (x : Int32) : x.toInt16.toInt32.toInt16.toInt32 = x.toInt16.toInt32 := fb_short (fb_short_rng x).1 (fb_short_rng x).2
theorem fb_char {n : Nat} (h : n < 65536) : (nI n).toUInt32.toUInt16.toUInt32.toInt32 = nI n := by
  apply Int32.toBitVec_inj.1
  apply BitVec.eq_of_toNat_eq
  have e1 : (nI n).toBitVec.toNat = n := by
    show (BitVec.ofNat 32 n).toNat = n
    rw [BitVec.toNat_ofNat, Nat.mod_eq_of_lt (by omega)]
  have e2 : ((nI n).toUInt32.toUInt16.toUInt32).toNat = n := by
    rw [UInt16.toNat_toUInt32, UInt32.toNat_toUInt16]
    show (nI n).toBitVec.toNat % 2 ^ 16 = n
    rw [e1, Nat.mod_eq_of_lt (by omega)]
  rw [e1]
  exact e2
end
section
/-! what the queries of a state say -/
def b2i (b : Bool) : Int32 := match b with
  | true => nI 1
  | false => nI 0
theorem b2i_0 (b : Bool) : b2i b = 0 ↔ b = false := by cases b <;> decide
theorem b2i_n0 (b : Bool) : ¬ b2i b = 0 ↔ b = true := by cases b <;> decide
theorem b2i_t : b2i true = nI 1 := rfl
theorem b2i_f : b2i false = nI 0 := rfl
theorem lp_x {v : Int32} {n : Nat} (h : v = nI n) (hn : n < 2 ^ 31) (hc : ¬ v ≤ nI n) : False := hc (by rw [h]; exact nI_le (Nat.le_refl _) hn)
theorem lp_s {v : Int32} {n i : Nat} (h : v = nI n) (hn : n < 2 ^ 31) (hi : i < n) (hc : v ≤ nI i) : False := nI_ge hi hn (by rw [← h]; exact hc)
/-- a counted loop with something that holds at its head -/
theorem ev_forI {Lay : List rf_Cell} {y : rf_Me} {pc : Nat} {r : Option Value} {M' : rf_Mem} (n : Nat) (I : Nat → Prop) (L : Nat → List (Option Value)) (M : Nat → rf_Mem) (hx : I n → Ev Lay y pc (L n) [] (M n) r M') (hs : ∀ i, i < n → I i → (I (i + 1) → Ev Lay y pc (L (i + 1)) [] (M (i + 1)) r M') → Ev Lay y pc (L i) [] (M i) r M') : ∀ i, i ≤ n → I i → Ev Lay y pc (L i) [] (M i) r M' := by
  intro i hi
  obtain ⟨d, hd⟩ : ∃ d, n - i = d := ⟨_, rfl⟩
  induction d generalizing i with
  | zero =>
    intro h
    have e : i = n := by omega
    subst e
    exact hx h
  | succ d ih => intro h; exact hs i (by omega) h (fun h2 => ih (i + 1) (by omega) (by omega) h2)
def vLeft (line shade : Nat → Int32) (l : Int32) (p : Nat) : Bool := decide (line p = l) && !decide (nI 9 ≤ shade p)
def vWith (line var shade : Nat → Int32) (l v : Int32) (p : Nat) : Bool := vLeft line shade l p && decide (var p = v)
def bAny (P : Nat → Bool) : Nat → Bool
  | 0 => false
  | n + 1 => bAny P n || P n
theorem bAny_of {P : Nat → Bool} : ∀ {n i : Nat}, i < n → P i = true → bAny P n = true
  | 0, _, h, _ => absurd h (Nat.not_lt_zero _)
  | n + 1, i, h, hp => by
    rcases Nat.lt_or_ge i n with q | q
    · simp [bAny, bAny_of q hp]
    · have e : i = n := by omega
      subst e
      simp [bAny, hp]
theorem bAny_no {P : Nat → Bool} : ∀ {n : Nat}, (∀ j, j < n → P j = false) → bAny P n = false
  | 0, _ => rfl
  | n + 1, h => by rw [bAny, bAny_no (fun j hj => h j (by omega)), h n (by omega)]; rfl
theorem bAny_iff {P : Nat → Bool} : ∀ {n : Nat}, bAny P n = true ↔ ∃ i, i < n ∧ P i = true
  | 0 => by simp [bAny]
  | n + 1 => by
    constructor
    · intro h
      simp only [bAny, Bool.or_eq_true] at h
      rcases h with h | h
      · obtain ⟨i, h1, h2⟩ := bAny_iff.mp h
        exact ⟨i, by omega, h2⟩
      · exact ⟨n, by omega, h⟩
    · intro h
      obtain ⟨i, h1, h2⟩ := h
      exact bAny_of h1 h2
theorem bAny_cong {P R : Nat → Bool} : ∀ {n : Nat}, (∀ k, k < n → P k = R k) → bAny P n = bAny R n
  | 0, _ => rfl
  | n + 1, h => by rw [bAny, bAny, bAny_cong (fun k hk => h k (by omega)), h n (by omega)]
/-- no hit up to i: one more -/
theorem no_s {P : Nat → Bool} {i : Nat} (h : ∀ j, j < i → P j = false) (hi : P i = false) : ∀ j, j < i + 1 → P j = false := fun j hj => by
  rcases Nat.lt_or_ge j i with q | q
  · exact h j q
  · have e : j = i := by omega
    rw [e]; exact hi
/-- the first, or -1 -/
def fFst (P : Nat → Bool) (n : Nat) : Int32 := if fa_first P n < n then nI (fa_first P n) else -1
theorem fa_hit {P : Nat → Bool} : ∀ {n i : Nat}, i < n → (∀ j, j < i → P j = false) → P i = true → fa_first P n = i
  | 0, _, h, _, _ => absurd h (Nat.not_lt_zero _)
  | n + 1, i, h, hj, hp => by
    rcases Nat.lt_or_ge i n with q | q
    · have e := fa_hit q hj hp
      simp only [fa_first, e, q, if_true]
    · have e : i = n := by omega
      subst e
      have h2 : ¬ fa_first P i < i := fun z => by
        have := fa_first_yes P i z
        rw [hj _ z] at this
        cases this
      simp only [fa_first, h2, if_false, hp, if_true]
theorem fa_none {P : Nat → Bool} {n : Nat} (hj : ∀ j, j < n → P j = false) : ¬ fa_first P n < n := fun z => by
  have := fa_first_yes P n z
  rw [hj _ z] at this
  cases this
theorem fFst_hit {P : Nat → Bool} {n i : Nat} (h : i < n) (hj : ∀ j, j < i → P j = false) (hp : P i = true) : fFst P n = nI i := by
  rw [fFst, fa_hit h hj hp, if_pos h]
theorem fFst_none {P : Nat → Bool} {n : Nat} (hj : ∀ j, j < n → P j = false) : fFst P n = -1 := by
  rw [fFst, if_neg (fa_none hj)]
theorem fa_first_cong {P R : Nat → Bool} : ∀ {n : Nat}, (∀ k, k < n → P k = R k) → fa_first P n = fa_first R n
  | 0, _ => rfl
  | n + 1, h => by rw [fa_first, fa_first, fa_first_cong (fun k hk => h k (by omega)), h n (by omega)]
theorem fFst_cong {P R : Nat → Bool} {n : Nat} (h : ∀ k, k < n → P k = R k) : fFst P n = fFst R n := by rw [fFst, fFst, fa_first_cong h]
/-- a set out of a predicate -/
def kset (P : Nat → Bool) : Nat → Int32
  | 0 => nI 0
  | n + 1 => if P n then kset P n ||| (nI 1 <<< (nI n &&& 31)) else kset P n
theorem kset_cong {P R : Nat → Bool} : ∀ {n : Nat}, (∀ k, k < n → P k = R k) → kset P n = kset R n
  | 0, _ => rfl
  | n + 1, h => by rw [kset, kset, kset_cong (fun k hk => h k (by omega)), h n (by omega)]
/-- a sum over those that have it -/
def iSum (P : Nat → Bool) (f : Nat → Int32) : Nat → Int32
  | 0 => nI 0
  | n + 1 => if P n then iSum P f n + f n else iSum P f n
theorem iSum_cong {P R : Nat → Bool} {f g : Nat → Int32} : ∀ {n : Nat}, (∀ k, k < n → P k = R k ∧ f k = g k) → iSum P f n = iSum R g n
  | 0, _ => rfl
  | n + 1, h => by rw [iSum, iSum, iSum_cong (fun k hk => h k (by omega)), (h n (by omega)).1, (h n (by omega)).2]
/-- the darkest page of a line -/
def dkst (P : Nat → Bool) (shade : Nat → Int32) : Nat → Option Nat
  | 0 => none
  | n + 1 => match dkst P shade n with
    | none => if P n then some n else none
    | some b => if P n && decide (shade n < shade b) then some n else some b
def oI (x : Option Nat) : Int32 := match x with
  | none => -1
  | some b => nI b
theorem dkst_lt {P : Nat → Bool} {shade : Nat → Int32} : ∀ {n b : Nat}, dkst P shade n = some b → b < n ∧ P b = true
  | 0, b, h => by cases h
  | n + 1, b, h => by
    rw [dkst] at h
    cases e : dkst P shade n with
    | none =>
      rw [e] at h
      by_cases hp : P n = true
      · simp [hp] at h
        subst h
        exact ⟨by omega, hp⟩
      · simp [hp] at h
    | some c =>
      have := dkst_lt e
      rw [e] at h
      by_cases hp : (P n && decide (shade n < shade c)) = true
      · simp only [hp, if_true] at h
        cases h
        exact ⟨by omega, by simp at hp; exact hp.1⟩
      · simp only [hp] at h
        cases h
        exact ⟨by omega, this.2⟩
theorem dkst_cong {P R : Nat → Bool} {f g : Nat → Int32} : ∀ {n : Nat}, (∀ k, k < n → P k = R k ∧ f k = g k) → dkst P f n = dkst R g n
  | 0, _ => rfl
  | n + 1, h => by
    have ih := dkst_cong (n := n) (fun k hk => h k (by omega))
    rw [dkst, dkst, ih, (h n (by omega)).1]
    cases e : dkst R g n with
    | none => rfl
    | some b =>
      have hb := (dkst_lt e).1
      show (if R n && decide (f n < f b) then some n else some b) = _
      rw [(h n (by omega)).2, (h b (by omega)).2]
theorem nI_m1 {b : Nat} (hb : b < 2 ^ 31) : ¬ nI b = -1 := fun e => nI_pos hb (by rw [e]; decide)
/-- what a reader holds of a line on a day -/
def knC (C : rf_Mem) (q : Nat) (d : Int32) (r l : Nat) : Int32 := if C 12 r ≤ d - C (q + 6) (r * 16 + l) then -1 else C (q + 5) (r * 16 + l)
def lrn (q : Nat) (C : rf_Mem) (r l : Nat) (v : Int32) : rf_Mem := rf_set (rf_set C (q + 5) (r * 16 + l) v) (q + 6) (r * 16 + l) (C q 10)
def dA (d n : Int32) : Int32 := if nI 9999 - d < n then nI 9999 - d else n
def sd (s : Int32) : Int32 := (s * nI 1103515245 + nI 12345) &&& nI 2147483647
def dv (s n : Int32) : Int32 := s / nI 65536 - s / nI 65536 / n * n

set_option maxRecDepth 20000 in
set_option maxHeartbeats 2000000 in
theorem e_isLeft {q p : Nat} {l : Int32} {C : rf_Mem} (hq : st_ok q) (hp : p < 40) : Ev LayC mX5_isLeft 0 (rf_ent 3 [.ref q, .int (nI p), .int l]) [] C (some (.int (b2i (vLeft (C (q + 1)) (C (q + 3)) l p)))) C := by
  have hq0 := hq
  obtain ⟨h0, h1, h2, h3, h4, h5, h6, h7, h8, h9, h10, h11, h20⟩ := hq
  refine ev_aload_n dX5_isLeft_0 rfl ?_
  refine ev_getR dX5_isLeft_1 fX5_18 (by first | assumption | rfl) (by rfl) ?_
  refine ev_iload_n dX5_isLeft_4 rfl ?_
  refine ev_ialdE _ dX5_isLeft_5 (rfl) (by first | assumption | rfl) ⟨by omega, by decide⟩ ?_
  refine ev_iload_n dX5_isLeft_6 rfl ?_
  refine ev_icmp_ne 25 dX5_isLeft_7 (by decide) (fun hc7 => ?_) (fun hc7 => ?_)
  · refine ev_iconst (v := (nI 0)) dX5_isLeft_25 (by decide) ?_
    exact ev_iretE dX5_isLeft_26 rfl rfl (by simp [b2i, vLeft, vWith, *]) (rfl)
  · refine ev_aload_n dX5_isLeft_10 rfl ?_
    refine ev_getR dX5_isLeft_11 fX5_25 (by first | assumption | rfl) (by rfl) ?_
    refine ev_iload_n dX5_isLeft_14 rfl ?_
    refine ev_ialdE _ dX5_isLeft_15 (rfl) (by first | assumption | rfl) ⟨by omega, by decide⟩ ?_
    refine ev_bipush (v := (nI 9)) dX5_isLeft_16 (by decide) ?_
    refine ev_icmp_ge 25 dX5_isLeft_18 (by decide) (fun hc18 => ?_) (fun hc18 => ?_)
    · refine ev_iconst (v := (nI 0)) dX5_isLeft_25 (by decide) ?_
      exact ev_iretE dX5_isLeft_26 rfl rfl (by simp [b2i, vLeft, vWith, *]) (rfl)
    · refine ev_iconst (v := (nI 1)) dX5_isLeft_21 (by decide) ?_
      refine ev_goto 26 dX5_isLeft_22 (by decide) ?_
      exact ev_iretE dX5_isLeft_26 rfl rfl (by simp [b2i, vLeft, vWith, *]) (rfl)
set_option maxRecDepth 20000 in
set_option maxHeartbeats 2000000 in
theorem e_pagesLeft {q n : Nat} {l : Int32} {C : rf_Mem} (hq : st_ok q) (hn : C q 9 = nI n) (hn2 : n ≤ 40) : Ev LayC mX5_pagesLeft 0 (rf_ent 4 [.ref q, .int l]) [] C (some (.int (nI (fb_ct (vLeft (C (q + 1)) (C (q + 3)) l) n)))) C := by
  have hq0 := hq
  obtain ⟨h0, h1, h2, h3, h4, h5, h6, h7, h8, h9, h10, h11, h20⟩ := hq
  have key := ev_for (Lay := LayC) (y := mX5_pagesLeft) (pc := 4) (r := (some (.int (nI (fb_ct (vLeft (C (q + 1)) (C (q + 3)) l) n))))) (M' := C) (n) (fun i => [some (.ref q), some (.int l), some (.int (nI (fb_ct (vLeft (C (q + 1)) (C (q + 3)) l) i))), some (.int (nI i))]) (fun i => C) ?hx ?hs
  case hx =>
    refine ev_iload_n dX5_pagesLeft_4 rfl ?_
    refine ev_aload_n dX5_pagesLeft_5 rfl ?_
    refine ev_getI dX5_pagesLeft_6 fX5_40 (by first | assumption | rfl) (by rfl) ?_
    refine ev_icmp_ge 30 dX5_pagesLeft_9 (by decide) (fun hc9 => ?_) (fun hc9 => False.elim (lp_x hn (by omega) hc9))
    refine ev_iload_n dX5_pagesLeft_30 rfl ?_
    exact ev_iretE dX5_pagesLeft_31 rfl rfl (by first | rfl | simp_all) (rfl)
  case hs =>
    intro i hi ih
    refine ev_iload_n dX5_pagesLeft_4 rfl ?_
    refine ev_aload_n dX5_pagesLeft_5 rfl ?_
    refine ev_getI dX5_pagesLeft_6 fX5_40 (by first | assumption | rfl) (by rfl) ?_
    refine ev_icmp_ge 30 dX5_pagesLeft_9 (by decide) (fun hc9 => False.elim (lp_s hn (by omega) hi hc9)) (fun hc9 => ?_)
    refine ev_aload_n dX5_pagesLeft_12 rfl ?_
    refine ev_iload_n dX5_pagesLeft_13 rfl ?_
    refine ev_iload_n dX5_pagesLeft_14 rfl ?_
    refine ev_cV2 dX5_pagesLeft_15 ceX5_isLeft kX5_162 (rm_le rfl rfl) (Nat.le_of_ble_eq_true rfl) (Nat.le_of_ble_eq_true rfl) (e_isLeft hq0 (by omega)) (by first | assumption | rfl) ?_
    refine ev_if_eq 24 dX5_pagesLeft_18 (by decide) (fun hc18 => ?_) (fun hc18 => ?_)
    · rw [b2i_0] at hc18
      refine ev_iinc (v := (nI 1)) dX5_pagesLeft_24 rfl (by decide) (by decide) rfl ?_
      refine ev_goto 4 dX5_pagesLeft_27 (by decide) ?_
      exact ev_st ih (by simp [nI_add, fb_ct_succ, *]) rfl (rfl)
    · rw [b2i_n0] at hc18
      refine ev_iinc (v := (nI 1)) dX5_pagesLeft_21 rfl (by decide) (by decide) rfl ?_
      refine ev_iinc (v := (nI 1)) dX5_pagesLeft_24 rfl (by decide) (by decide) rfl ?_
      refine ev_goto 4 dX5_pagesLeft_27 (by decide) ?_
      exact ev_st ih (by simp [nI_add, fb_ct_succ, *]) rfl (rfl)
  refine ev_iconst (v := (nI 0)) dX5_pagesLeft_0 (by decide) ?_
  refine ev_istore_n dX5_pagesLeft_1 (by decide) rfl ?_
  refine ev_iconst (v := (nI 0)) dX5_pagesLeft_2 (by decide) ?_
  refine ev_istore_n dX5_pagesLeft_3 (by decide) rfl ?_
  exact ev_st (key 0 (Nat.zero_le _)) (rfl) rfl (rfl)
set_option maxRecDepth 20000 in
set_option maxHeartbeats 2000000 in
theorem e_hasPage {q : Nat} {C : rf_Mem} (hq : st_ok q) {x : Int32} : Ev LayC mX5_hasPage 0 (rf_ent 2 [.ref q, .int x]) [] C (some (.int (b2i (!decide (x < 0) && !decide (C q 9 ≤ x))))) C := by
  have hq0 := hq
  obtain ⟨h0, h1, h2, h3, h4, h5, h6, h7, h8, h9, h10, h11, h20⟩ := hq
  refine ev_iload_n dX5_hasPage_0 rfl ?_
  refine ev_if_lt 16 dX5_hasPage_1 (by decide) (fun hc1 => ?_) (fun hc1 => ?_)
  · refine ev_iconst (v := (nI 0)) dX5_hasPage_16 (by decide) ?_
    exact ev_iretE dX5_hasPage_17 rfl rfl (by simp [b2i, *]) (rfl)
  · refine ev_iload_n dX5_hasPage_4 rfl ?_
    refine ev_aload_n dX5_hasPage_5 rfl ?_
    refine ev_getI dX5_hasPage_6 fX5_40 (by first | assumption | rfl) (by rfl) ?_
    refine ev_icmp_ge 16 dX5_hasPage_9 (by decide) (fun hc9 => ?_) (fun hc9 => ?_)
    · refine ev_iconst (v := (nI 0)) dX5_hasPage_16 (by decide) ?_
      exact ev_iretE dX5_hasPage_17 rfl rfl (by simp [b2i, *]) (rfl)
    · refine ev_iconst (v := (nI 1)) dX5_hasPage_12 (by decide) ?_
      refine ev_goto 17 dX5_hasPage_13 (by decide) ?_
      exact ev_iretE dX5_hasPage_17 rfl rfl (by simp [b2i, *]) (rfl)
set_option maxRecDepth 20000 in
set_option maxHeartbeats 2000000 in
theorem e_isGone {q : Nat} {C : rf_Mem} (hq : st_ok q) {p : Nat} (hp : p < 40) : Ev LayC mX5_isGone 0 (rf_ent 2 [.ref q, .int (nI p)]) [] C (some (.int (b2i (!decide (C (q + 3) p < nI 9))))) C := by
  have hq0 := hq
  obtain ⟨h0, h1, h2, h3, h4, h5, h6, h7, h8, h9, h10, h11, h20⟩ := hq
  refine ev_aload_n dX5_isGone_0 rfl ?_
  refine ev_getR dX5_isGone_1 fX5_25 (by first | assumption | rfl) (by rfl) ?_
  refine ev_iload_n dX5_isGone_4 rfl ?_
  refine ev_ialdE _ dX5_isGone_5 (rfl) (by first | assumption | rfl) ⟨by omega, by decide⟩ ?_
  refine ev_bipush (v := (nI 9)) dX5_isGone_6 (by decide) ?_
  refine ev_icmp_lt 15 dX5_isGone_8 (by decide) (fun hc8 => ?_) (fun hc8 => ?_)
  · refine ev_iconst (v := (nI 0)) dX5_isGone_15 (by decide) ?_
    exact ev_iretE dX5_isGone_16 rfl rfl (by simp [b2i, *]) (rfl)
  · refine ev_iconst (v := (nI 1)) dX5_isGone_11 (by decide) ?_
    refine ev_goto 16 dX5_isGone_12 (by decide) ?_
    exact ev_iretE dX5_isGone_16 rfl rfl (by simp [b2i, *]) (rfl)
set_option maxRecDepth 20000 in
set_option maxHeartbeats 2000000 in
theorem e_isFull {q : Nat} {C : rf_Mem} (hq : st_ok q) : Ev LayC mX5_isFull 0 (rf_ent 1 [.ref q]) [] C (some (.int (b2i (!decide (C q 9 < nI 40))))) C := by
  have hq0 := hq
  obtain ⟨h0, h1, h2, h3, h4, h5, h6, h7, h8, h9, h10, h11, h20⟩ := hq
  refine ev_aload_n dX5_isFull_0 rfl ?_
  refine ev_getI dX5_isFull_1 fX5_40 (by first | assumption | rfl) (by rfl) ?_
  refine ev_bipush (v := (nI 40)) dX5_isFull_4 (by decide) ?_
  refine ev_icmp_lt 13 dX5_isFull_6 (by decide) (fun hc6 => ?_) (fun hc6 => ?_)
  · refine ev_iconst (v := (nI 0)) dX5_isFull_13 (by decide) ?_
    exact ev_iretE dX5_isFull_14 rfl rfl (by simp [b2i, *]) (rfl)
  · refine ev_iconst (v := (nI 1)) dX5_isFull_9 (by decide) ?_
    refine ev_goto 14 dX5_isFull_10 (by decide) ?_
    exact ev_iretE dX5_isFull_14 rfl rfl (by simp [b2i, *]) (rfl)
set_option maxRecDepth 20000 in
set_option maxHeartbeats 2000000 in
theorem e_heart {C : rf_Mem} {r l : Nat} : Ev LayC mX5_heart 0 (rf_ent 2 [.int (nI r), .int (nI l)]) [] C (some (.int (nI (r * 16 + l)))) C := by
  refine ev_iload_n dX5_heart_0 rfl ?_
  refine ev_bipush (v := (nI 16)) dX5_heart_1 (by decide) ?_
  refine ev_imul dX5_heart_3 ?_
  refine ev_iload_n dX5_heart_4 rfl ?_
  refine ev_iadd dX5_heart_5 ?_
  exact ev_iretE dX5_heart_6 rfl rfl (by rw [pk_mul, nI_add]) (rfl)
set_option maxRecDepth 20000 in
set_option maxHeartbeats 2000000 in
theorem e_dayLearnt {q : Nat} {C : rf_Mem} (hq : st_ok q) {r l : Nat} (hr : r < 8) (hl : l < 16) : Ev LayC mX5_dayLearnt 0 (rf_ent 3 [.ref q, .int (nI r), .int (nI l)]) [] C (some (.int (C (q + 6) (r * 16 + l)))) C := by
  have hq0 := hq
  obtain ⟨h0, h1, h2, h3, h4, h5, h6, h7, h8, h9, h10, h11, h20⟩ := hq
  refine ev_aload_n dX5_dayLearnt_0 rfl ?_
  refine ev_getR dX5_dayLearnt_1 fX5_34 (by first | assumption | rfl) (by rfl) ?_
  refine ev_iload_n dX5_dayLearnt_4 rfl ?_
  refine ev_iload_n dX5_dayLearnt_5 rfl ?_
  refine ev_cS2 dX5_dayLearnt_6 ceX5_heart kX5_92 (rm_le rfl rfl) (Nat.le_of_ble_eq_true rfl) (Nat.le_of_ble_eq_true rfl) (e_heart) ?_
  refine ev_ialdE _ dX5_dayLearnt_9 (rfl) (by first | assumption | rfl) ⟨by omega, by decide⟩ ?_
  exact ev_iretE dX5_dayLearnt_10 rfl rfl (by first | rfl | simp_all) (rfl)
set_option maxRecDepth 20000 in
set_option maxHeartbeats 2000000 in
theorem e_variantAt {q : Nat} {C : rf_Mem} (hq : st_ok q) {r l : Nat} (hr : r < 8) (hl : l < 16) {d : Int32} : Ev LayC mX5_variantAt 0 (rf_ent 5 [.ref q, .int (nI r), .int (nI l), .int d]) [] C (some (.int (knC C q d r l))) C := by
  have hq0 := hq
  obtain ⟨h0, h1, h2, h3, h4, h5, h6, h7, h8, h9, h10, h11, h20⟩ := hq
  refine ev_iload_n dX5_variantAt_0 rfl ?_
  refine ev_aload_n dX5_variantAt_1 rfl ?_
  refine ev_iload_n dX5_variantAt_2 rfl ?_
  refine ev_iload_n dX5_variantAt_3 rfl ?_
  refine ev_cV2 dX5_variantAt_4 ceX5_dayLearnt kX5_85 (rm_le rfl rfl) (Nat.le_of_ble_eq_true rfl) (Nat.le_of_ble_eq_true rfl) (e_dayLearnt hq0 hr hl) (by first | assumption | rfl) ?_
  refine ev_isub dX5_variantAt_7 ?_
  refine ev_aload_n dX5_variantAt_8 rfl ?_
  refine ev_getR dX5_variantAt_9 fX5_50 (by first | assumption | rfl) (by rfl) ?_
  refine ev_getR dX5_variantAt_12 fX5_89 (by first | assumption | rfl) (by rfl) ?_
  refine ev_iload_n dX5_variantAt_15 rfl ?_
  refine ev_ialdE _ dX5_variantAt_16 (rfl) (by first | assumption | rfl) ⟨by omega, by decide⟩ ?_
  refine ev_icmp_ge 24 dX5_variantAt_17 (by decide) (fun hc17 => ?_) (fun hc17 => ?_)
  · refine ev_iconst (v := (nI 0)) dX5_variantAt_24 (by decide) ?_
    refine ev_istore dX5_variantAt_25 (by decide) rfl ?_
    refine ev_iload dX5_variantAt_27 rfl ?_
    refine ev_if_eq 45 dX5_variantAt_29 (by decide) (fun _ => ?_) (fun hc29 => False.elim (absurd hc29 (by decide)))
    refine ev_iconst (v := (-1)) dX5_variantAt_45 (by decide) ?_
    exact ev_iretE dX5_variantAt_46 rfl rfl (by simp [knC, *]) (rfl)
  · refine ev_iconst (v := (nI 1)) dX5_variantAt_20 (by decide) ?_
    refine ev_goto 25 dX5_variantAt_21 (by decide) ?_
    refine ev_istore dX5_variantAt_25 (by decide) rfl ?_
    refine ev_iload dX5_variantAt_27 rfl ?_
    refine ev_if_eq 45 dX5_variantAt_29 (by decide) (fun hc29 => False.elim (absurd hc29 (by decide))) (fun _ => ?_)
    refine ev_aload_n dX5_variantAt_32 rfl ?_
    refine ev_getR dX5_variantAt_33 fX5_31 (by first | assumption | rfl) (by rfl) ?_
    refine ev_iload_n dX5_variantAt_36 rfl ?_
    refine ev_iload_n dX5_variantAt_37 rfl ?_
    refine ev_cS2 dX5_variantAt_38 ceX5_heart kX5_92 (rm_le rfl rfl) (Nat.le_of_ble_eq_true rfl) (Nat.le_of_ble_eq_true rfl) (e_heart) ?_
    refine ev_ialdE _ dX5_variantAt_41 (rfl) (by first | assumption | rfl) ⟨by omega, by decide⟩ ?_
    refine ev_goto 46 dX5_variantAt_42 (by decide) ?_
    exact ev_iretE dX5_variantAt_46 rfl rfl (by simp [knC, *]) (rfl)
end
