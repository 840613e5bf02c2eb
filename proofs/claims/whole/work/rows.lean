section
-- ===== PART A: goes FIRST, ahead of the names: the tables' words, and 'selects' of the private methods out of them =====
/-- a private method of a class that the tables say can be made, by its rows of tables_1 -/
def lw_okq (q : MethodName × Nat) : Prop := (q.1.cls ≠ "java/lang/invoke/MethodHandle" ∧ q.1.cls ≠ "java/lang/invoke/VarHandle") ∧ Cond.instantiable q.1.cls q.2 ∈ tables_1 ∧ Cond.privateMethod q.1 ∈ tables_1 ∧ Cond.instanceMethod q.1 ∈ tables_1
theorem lw_p0 : lw_okq (⟨"DimBooks$Script", "skipBlanks", "()V"⟩, 5) := ⟨⟨by decide +kernel, by decide +kernel⟩, List.mem_of_getElem? (i := 26) (by decide +kernel), List.mem_of_getElem? (i := 278) (by decide +kernel), List.mem_of_getElem? (i := 279) (by decide +kernel)⟩
theorem lw_p1 : lw_okq (⟨"DimBooks$Script", "parseClause", "(LDimBooks$Library;)V"⟩, 5) := ⟨⟨by decide +kernel, by decide +kernel⟩, List.mem_of_getElem? (i := 26) (by decide +kernel), List.mem_of_getElem? (i := 282) (by decide +kernel), List.mem_of_getElem? (i := 283) (by decide +kernel)⟩
theorem lw_p2 : lw_okq (⟨"DimBooks$Script", "wordEnd", "()I"⟩, 5) := ⟨⟨by decide +kernel, by decide +kernel⟩, List.mem_of_getElem? (i := 26) (by decide +kernel), List.mem_of_getElem? (i := 286) (by decide +kernel), List.mem_of_getElem? (i := 287) (by decide +kernel)⟩
theorem lw_p3 : lw_okq (⟨"DimBooks$Script", "spells", "(IILjava/lang/String;)Z"⟩, 5) := ⟨⟨by decide +kernel, by decide +kernel⟩, List.mem_of_getElem? (i := 26) (by decide +kernel), List.mem_of_getElem? (i := 291) (by decide +kernel), List.mem_of_getElem? (i := 292) (by decide +kernel)⟩
theorem lw_p4 : lw_okq (⟨"DimBooks$Script", "parseLine", "(LDimBooks$Library;I)V"⟩, 5) := ⟨⟨by decide +kernel, by decide +kernel⟩, List.mem_of_getElem? (i := 26) (by decide +kernel), List.mem_of_getElem? (i := 343) (by decide +kernel), List.mem_of_getElem? (i := 344) (by decide +kernel)⟩
theorem lw_p5 : lw_okq (⟨"DimBooks$Script", "fail", "(II)V"⟩, 5) := ⟨⟨by decide +kernel, by decide +kernel⟩, List.mem_of_getElem? (i := 26) (by decide +kernel), List.mem_of_getElem? (i := 347) (by decide +kernel), List.mem_of_getElem? (i := 348) (by decide +kernel)⟩
theorem lw_p6 : lw_okq (⟨"DimBooks$Script", "takeNumber", "(II)I"⟩, 5) := ⟨⟨by decide +kernel, by decide +kernel⟩, List.mem_of_getElem? (i := 26) (by decide +kernel), List.mem_of_getElem? (i := 351) (by decide +kernel), List.mem_of_getElem? (i := 352) (by decide +kernel)⟩
theorem lw_p7 : lw_okq (⟨"DimBooks$Script", "takeEnd", "()V"⟩, 5) := ⟨⟨by decide +kernel, by decide +kernel⟩, List.mem_of_getElem? (i := 26) (by decide +kernel), List.mem_of_getElem? (i := 358) (by decide +kernel), List.mem_of_getElem? (i := 359) (by decide +kernel)⟩
theorem lw_p8 : lw_okq (⟨"DimBooks$Script", "parseReader", "(LDimBooks$Library;I)V"⟩, 5) := ⟨⟨by decide +kernel, by decide +kernel⟩, List.mem_of_getElem? (i := 26) (by decide +kernel), List.mem_of_getElem? (i := 367) (by decide +kernel), List.mem_of_getElem? (i := 368) (by decide +kernel)⟩
theorem lw_p9 : lw_okq (⟨"DimBooks$Script", "takeKind", "()I"⟩, 5) := ⟨⟨by decide +kernel, by decide +kernel⟩, List.mem_of_getElem? (i := 26) (by decide +kernel), List.mem_of_getElem? (i := 371) (by decide +kernel), List.mem_of_getElem? (i := 372) (by decide +kernel)⟩
theorem lw_p10 : lw_okq (⟨"DimBooks$Script", "parseError", "(LDimBooks$Library;I)V"⟩, 5) := ⟨⟨by decide +kernel, by decide +kernel⟩, List.mem_of_getElem? (i := 26) (by decide +kernel), List.mem_of_getElem? (i := 385) (by decide +kernel), List.mem_of_getElem? (i := 386) (by decide +kernel)⟩
theorem lw_p11 : lw_okq (⟨"DimBooks$State", "pagesLeftWith", "(II)I"⟩, 12) := ⟨⟨by decide +kernel, by decide +kernel⟩, List.mem_of_getElem? (i := 98) (by decide +kernel), List.mem_of_getElem? (i := 425) (by decide +kernel), List.mem_of_getElem? (i := 426) (by decide +kernel)⟩
theorem lw_p12 : lw_okq (⟨"DimBooks$State", "isLeft", "(II)Z"⟩, 12) := ⟨⟨by decide +kernel, by decide +kernel⟩, List.mem_of_getElem? (i := 98) (by decide +kernel), List.mem_of_getElem? (i := 429) (by decide +kernel), List.mem_of_getElem? (i := 430) (by decide +kernel)⟩
theorem lw_p13 : lw_okq (⟨"DimBooks$State", "daysAhead", "(I)I"⟩, 12) := ⟨⟨by decide +kernel, by decide +kernel⟩, List.mem_of_getElem? (i := 98) (by decide +kernel), List.mem_of_getElem? (i := 433) (by decide +kernel), List.mem_of_getElem? (i := 434) (by decide +kernel)⟩
theorem lw_p14 : lw_okq (⟨"DimBooks$State", "variantAt", "(III)I"⟩, 12) := ⟨⟨by decide +kernel, by decide +kernel⟩, List.mem_of_getElem? (i := 98) (by decide +kernel), List.mem_of_getElem? (i := 440) (by decide +kernel), List.mem_of_getElem? (i := 441) (by decide +kernel)⟩
theorem lw_p15 : lw_okq (⟨"DimBooks$State", "knowersOf", "(II)I"⟩, 12) := ⟨⟨by decide +kernel, by decide +kernel⟩, List.mem_of_getElem? (i := 98) (by decide +kernel), List.mem_of_getElem? (i := 489) (by decide +kernel), List.mem_of_getElem? (i := 490) (by decide +kernel)⟩
def lw_privs_1 : List (MethodName × Nat) := [(⟨"DimBooks$Script", "skipBlanks", "()V"⟩, 5), (⟨"DimBooks$Script", "parseClause", "(LDimBooks$Library;)V"⟩, 5), (⟨"DimBooks$Script", "wordEnd", "()I"⟩, 5), (⟨"DimBooks$Script", "spells", "(IILjava/lang/String;)Z"⟩, 5), (⟨"DimBooks$Script", "parseLine", "(LDimBooks$Library;I)V"⟩, 5), (⟨"DimBooks$Script", "fail", "(II)V"⟩, 5), (⟨"DimBooks$Script", "takeNumber", "(II)I"⟩, 5), (⟨"DimBooks$Script", "takeEnd", "()V"⟩, 5), (⟨"DimBooks$Script", "parseReader", "(LDimBooks$Library;I)V"⟩, 5), (⟨"DimBooks$Script", "takeKind", "()I"⟩, 5), (⟨"DimBooks$Script", "parseError", "(LDimBooks$Library;I)V"⟩, 5), (⟨"DimBooks$State", "pagesLeftWith", "(II)I"⟩, 12), (⟨"DimBooks$State", "isLeft", "(II)Z"⟩, 12), (⟨"DimBooks$State", "daysAhead", "(I)I"⟩, 12), (⟨"DimBooks$State", "variantAt", "(III)I"⟩, 12), (⟨"DimBooks$State", "knowersOf", "(II)I"⟩, 12)]
theorem lw_r1 : ∀ q ∈ lw_privs_1, lw_okq q := List.forall_mem_cons.mpr ⟨lw_p0, List.forall_mem_cons.mpr ⟨lw_p1, List.forall_mem_cons.mpr ⟨lw_p2, List.forall_mem_cons.mpr ⟨lw_p3, List.forall_mem_cons.mpr ⟨lw_p4, List.forall_mem_cons.mpr ⟨lw_p5, List.forall_mem_cons.mpr ⟨lw_p6, List.forall_mem_cons.mpr ⟨lw_p7, List.forall_mem_cons.mpr ⟨lw_p8, List.forall_mem_cons.mpr ⟨lw_p9, List.forall_mem_cons.mpr ⟨lw_p10, List.forall_mem_cons.mpr ⟨lw_p11, List.forall_mem_cons.mpr ⟨lw_p12, List.forall_mem_cons.mpr ⟨lw_p13, List.forall_mem_cons.mpr ⟨lw_p14, List.forall_mem_cons.mpr ⟨lw_p15, fun _ h => absurd h List.not_mem_nil⟩⟩⟩⟩⟩⟩⟩⟩⟩⟩⟩⟩⟩⟩⟩⟩
theorem lw_p16 : lw_okq (⟨"DimBooks$State", "draw", "(I)I"⟩, 12) := ⟨⟨by decide +kernel, by decide +kernel⟩, List.mem_of_getElem? (i := 98) (by decide +kernel), List.mem_of_getElem? (i := 563) (by decide +kernel), List.mem_of_getElem? (i := 564) (by decide +kernel)⟩
theorem lw_p17 : lw_okq (⟨"DimBooks", "chooseFor", "(II)V"⟩, 12) := ⟨⟨by decide +kernel, by decide +kernel⟩, List.mem_of_getElem? (i := 18) (by decide +kernel), List.mem_of_getElem? (i := 651) (by decide +kernel), List.mem_of_getElem? (i := 652) (by decide +kernel)⟩
theorem lw_p18 : lw_okq (⟨"DimBooks", "fewestToKnow", "(II)I"⟩, 12) := ⟨⟨by decide +kernel, by decide +kernel⟩, List.mem_of_getElem? (i := 18) (by decide +kernel), List.mem_of_getElem? (i := 674) (by decide +kernel), List.mem_of_getElem? (i := 675) (by decide +kernel)⟩
theorem lw_p19 : lw_okq (⟨"DimBooks", "pagesAllow", "(II)Z"⟩, 12) := ⟨⟨by decide +kernel, by decide +kernel⟩, List.mem_of_getElem? (i := 18) (by decide +kernel), List.mem_of_getElem? (i := 687) (by decide +kernel), List.mem_of_getElem? (i := 688) (by decide +kernel)⟩
theorem lw_p20 : lw_okq (⟨"DimBooksModel", "here", "()I"⟩, 25) := ⟨⟨by decide +kernel, by decide +kernel⟩, List.mem_of_getElem? (i := 764) (by decide +kernel), List.mem_of_getElem? (i := 862) (by decide +kernel), List.mem_of_getElem? (i := 863) (by decide +kernel)⟩
theorem lw_p21 : lw_okq (⟨"DimBooksModel", "takeClause", "()V"⟩, 25) := ⟨⟨by decide +kernel, by decide +kernel⟩, List.mem_of_getElem? (i := 764) (by decide +kernel), List.mem_of_getElem? (i := 866) (by decide +kernel), List.mem_of_getElem? (i := 867) (by decide +kernel)⟩
theorem lw_p22 : lw_okq (⟨"DimBooksModel", "takeWord", "()V"⟩, 25) := ⟨⟨by decide +kernel, by decide +kernel⟩, List.mem_of_getElem? (i := 764) (by decide +kernel), List.mem_of_getElem? (i := 870) (by decide +kernel), List.mem_of_getElem? (i := 871) (by decide +kernel)⟩
theorem lw_p23 : lw_okq (⟨"DimBooksModel", "isWord", "(IIIIIIII)Z"⟩, 25) := ⟨⟨by decide +kernel, by decide +kernel⟩, List.mem_of_getElem? (i := 764) (by decide +kernel), List.mem_of_getElem? (i := 876) (by decide +kernel), List.mem_of_getElem? (i := 877) (by decide +kernel)⟩
theorem lw_p24 : lw_okq (⟨"DimBooksModel", "want", "(ZII)Z"⟩, 25) := ⟨⟨by decide +kernel, by decide +kernel⟩, List.mem_of_getElem? (i := 764) (by decide +kernel), List.mem_of_getElem? (i := 880) (by decide +kernel), List.mem_of_getElem? (i := 881) (by decide +kernel)⟩
theorem lw_p25 : lw_okq (⟨"DimBooksModel", "takeNumber", "(II)I"⟩, 25) := ⟨⟨by decide +kernel, by decide +kernel⟩, List.mem_of_getElem? (i := 764) (by decide +kernel), List.mem_of_getElem? (i := 884) (by decide +kernel), List.mem_of_getElem? (i := 885) (by decide +kernel)⟩
theorem lw_p26 : lw_okq (⟨"DimBooksModel", "kindHere", "()I"⟩, 25) := ⟨⟨by decide +kernel, by decide +kernel⟩, List.mem_of_getElem? (i := 764) (by decide +kernel), List.mem_of_getElem? (i := 891) (by decide +kernel), List.mem_of_getElem? (i := 892) (by decide +kernel)⟩
theorem lw_p27 : lw_okq (⟨"DimBooksModel", "keptMany", "(I)I"⟩, 25) := ⟨⟨by decide +kernel, by decide +kernel⟩, List.mem_of_getElem? (i := 764) (by decide +kernel), List.mem_of_getElem? (i := 907) (by decide +kernel), List.mem_of_getElem? (i := 908) (by decide +kernel)⟩
theorem lw_p28 : lw_okq (⟨"DimBooksModel", "isKeptLine", "(II)Z"⟩, 25) := ⟨⟨by decide +kernel, by decide +kernel⟩, List.mem_of_getElem? (i := 764) (by decide +kernel), List.mem_of_getElem? (i := 911) (by decide +kernel), List.mem_of_getElem? (i := 912) (by decide +kernel)⟩
theorem lw_p29 : lw_okq (⟨"DimBooksModel", "isLine", "(I)Z"⟩, 25) := ⟨⟨by decide +kernel, by decide +kernel⟩, List.mem_of_getElem? (i := 764) (by decide +kernel), List.mem_of_getElem? (i := 922) (by decide +kernel), List.mem_of_getElem? (i := 923) (by decide +kernel)⟩
theorem lw_p30 : lw_okq (⟨"DimBooksModel", "pagesOf", "(I)I"⟩, 25) := ⟨⟨by decide +kernel, by decide +kernel⟩, List.mem_of_getElem? (i := 764) (by decide +kernel), List.mem_of_getElem? (i := 927) (by decide +kernel), List.mem_of_getElem? (i := 928) (by decide +kernel)⟩
theorem lw_p31 : lw_okq (⟨"DimBooksModel", "knowers", "(I)I"⟩, 25) := ⟨⟨by decide +kernel, by decide +kernel⟩, List.mem_of_getElem? (i := 764) (by decide +kernel), List.mem_of_getElem? (i := 931) (by decide +kernel), List.mem_of_getElem? (i := 932) (by decide +kernel)⟩
def lw_privs_2 : List (MethodName × Nat) := [(⟨"DimBooks$State", "draw", "(I)I"⟩, 12), (⟨"DimBooks", "chooseFor", "(II)V"⟩, 12), (⟨"DimBooks", "fewestToKnow", "(II)I"⟩, 12), (⟨"DimBooks", "pagesAllow", "(II)Z"⟩, 12), (⟨"DimBooksModel", "here", "()I"⟩, 25), (⟨"DimBooksModel", "takeClause", "()V"⟩, 25), (⟨"DimBooksModel", "takeWord", "()V"⟩, 25), (⟨"DimBooksModel", "isWord", "(IIIIIIII)Z"⟩, 25), (⟨"DimBooksModel", "want", "(ZII)Z"⟩, 25), (⟨"DimBooksModel", "takeNumber", "(II)I"⟩, 25), (⟨"DimBooksModel", "kindHere", "()I"⟩, 25), (⟨"DimBooksModel", "keptMany", "(I)I"⟩, 25), (⟨"DimBooksModel", "isKeptLine", "(II)Z"⟩, 25), (⟨"DimBooksModel", "isLine", "(I)Z"⟩, 25), (⟨"DimBooksModel", "pagesOf", "(I)I"⟩, 25), (⟨"DimBooksModel", "knowers", "(I)I"⟩, 25)]
theorem lw_r2 : ∀ q ∈ lw_privs_2, lw_okq q := List.forall_mem_cons.mpr ⟨lw_p16, List.forall_mem_cons.mpr ⟨lw_p17, List.forall_mem_cons.mpr ⟨lw_p18, List.forall_mem_cons.mpr ⟨lw_p19, List.forall_mem_cons.mpr ⟨lw_p20, List.forall_mem_cons.mpr ⟨lw_p21, List.forall_mem_cons.mpr ⟨lw_p22, List.forall_mem_cons.mpr ⟨lw_p23, List.forall_mem_cons.mpr ⟨lw_p24, List.forall_mem_cons.mpr ⟨lw_p25, List.forall_mem_cons.mpr ⟨lw_p26, List.forall_mem_cons.mpr ⟨lw_p27, List.forall_mem_cons.mpr ⟨lw_p28, List.forall_mem_cons.mpr ⟨lw_p29, List.forall_mem_cons.mpr ⟨lw_p30, List.forall_mem_cons.mpr ⟨lw_p31, fun _ h => absurd h List.not_mem_nil⟩⟩⟩⟩⟩⟩⟩⟩⟩⟩⟩⟩⟩⟩⟩⟩
theorem lw_p32 : lw_okq (⟨"DimBooksModel", "vote", "(I)I"⟩, 25) := ⟨⟨by decide +kernel, by decide +kernel⟩, List.mem_of_getElem? (i := 764) (by decide +kernel), List.mem_of_getElem? (i := 935) (by decide +kernel), List.mem_of_getElem? (i := 936) (by decide +kernel)⟩
theorem lw_p33 : lw_okq (⟨"DimBooksModel", "votesFor", "(II)I"⟩, 25) := ⟨⟨by decide +kernel, by decide +kernel⟩, List.mem_of_getElem? (i := 764) (by decide +kernel), List.mem_of_getElem? (i := 942) (by decide +kernel), List.mem_of_getElem? (i := 943) (by decide +kernel)⟩
theorem lw_p34 : lw_okq (⟨"DimBooksModel", "isReader", "(I)Z"⟩, 25) := ⟨⟨by decide +kernel, by decide +kernel⟩, List.mem_of_getElem? (i := 764) (by decide +kernel), List.mem_of_getElem? (i := 950) (by decide +kernel), List.mem_of_getElem? (i := 951) (by decide +kernel)⟩
theorem lw_p35 : lw_okq (⟨"DimBooksModel", "knownBy", "(I)I"⟩, 25) := ⟨⟨by decide +kernel, by decide +kernel⟩, List.mem_of_getElem? (i := 764) (by decide +kernel), List.mem_of_getElem? (i := 954) (by decide +kernel), List.mem_of_getElem? (i := 955) (by decide +kernel)⟩
theorem lw_p36 : lw_okq (⟨"DimBooksModel", "isPage", "(I)Z"⟩, 25) := ⟨⟨by decide +kernel, by decide +kernel⟩, List.mem_of_getElem? (i := 764) (by decide +kernel), List.mem_of_getElem? (i := 962) (by decide +kernel), List.mem_of_getElem? (i := 963) (by decide +kernel)⟩
theorem lw_p37 : lw_okq (⟨"DimBooksModel", "readMany", "(I)I"⟩, 25) := ⟨⟨by decide +kernel, by decide +kernel⟩, List.mem_of_getElem? (i := 764) (by decide +kernel), List.mem_of_getElem? (i := 966) (by decide +kernel), List.mem_of_getElem? (i := 967) (by decide +kernel)⟩
theorem lw_p38 : lw_okq (⟨"DimBooksModel", "readPage", "(III)V"⟩, 25) := ⟨⟨by decide +kernel, by decide +kernel⟩, List.mem_of_getElem? (i := 764) (by decide +kernel), List.mem_of_getElem? (i := 984) (by decide +kernel), List.mem_of_getElem? (i := 985) (by decide +kernel)⟩
theorem lw_p39 : lw_okq (⟨"DimBooksModel", "know", "(IIII)V"⟩, 25) := ⟨⟨by decide +kernel, by decide +kernel⟩, List.mem_of_getElem? (i := 764) (by decide +kernel), List.mem_of_getElem? (i := 988) (by decide +kernel), List.mem_of_getElem? (i := 989) (by decide +kernel)⟩
theorem lw_p40 : lw_okq (⟨"DimBooksModel", "make", "(III)I"⟩, 25) := ⟨⟨by decide +kernel, by decide +kernel⟩, List.mem_of_getElem? (i := 764) (by decide +kernel), List.mem_of_getElem? (i := 996) (by decide +kernel), List.mem_of_getElem? (i := 997) (by decide +kernel)⟩
theorem lw_p41 : lw_okq (⟨"DimBooksModel", "draw", "(II)I"⟩, 25) := ⟨⟨by decide +kernel, by decide +kernel⟩, List.mem_of_getElem? (i := 764) (by decide +kernel), List.mem_of_getElem? (i := 1000) (by decide +kernel), List.mem_of_getElem? (i := 1001) (by decide +kernel)⟩
theorem lw_p42 : lw_okq (⟨"DimBooksModel", "darken", "(I)V"⟩, 25) := ⟨⟨by decide +kernel, by decide +kernel⟩, List.mem_of_getElem? (i := 764) (by decide +kernel), List.mem_of_getElem? (i := 1021) (by decide +kernel), List.mem_of_getElem? (i := 1022) (by decide +kernel)⟩
theorem lw_p43 : lw_okq (⟨"DimBooksModel", "runDays", "(II)V"⟩, 25) := ⟨⟨by decide +kernel, by decide +kernel⟩, List.mem_of_getElem? (i := 764) (by decide +kernel), List.mem_of_getElem? (i := 1030) (by decide +kernel), List.mem_of_getElem? (i := 1031) (by decide +kernel)⟩
theorem lw_p44 : lw_okq (⟨"DimBooksModel", "grantAll", "(II)I"⟩, 25) := ⟨⟨by decide +kernel, by decide +kernel⟩, List.mem_of_getElem? (i := 764) (by decide +kernel), List.mem_of_getElem? (i := 1051) (by decide +kernel), List.mem_of_getElem? (i := 1052) (by decide +kernel)⟩
theorem lw_p45 : lw_okq (⟨"DimBooksModel", "palest", "(II)I"⟩, 25) := ⟨⟨by decide +kernel, by decide +kernel⟩, List.mem_of_getElem? (i := 764) (by decide +kernel), List.mem_of_getElem? (i := 1058) (by decide +kernel), List.mem_of_getElem? (i := 1059) (by decide +kernel)⟩
theorem lw_p46 : lw_okq (⟨"DimBooksModel", "sumBy", "(II)I"⟩, 25) := ⟨⟨by decide +kernel, by decide +kernel⟩, List.mem_of_getElem? (i := 764) (by decide +kernel), List.mem_of_getElem? (i := 1066) (by decide +kernel), List.mem_of_getElem? (i := 1067) (by decide +kernel)⟩
theorem lw_p47 : lw_okq (⟨"DimBooksModel", "copyRow", "(II)V"⟩, 25) := ⟨⟨by decide +kernel, by decide +kernel⟩, List.mem_of_getElem? (i := 764) (by decide +kernel), List.mem_of_getElem? (i := 1070) (by decide +kernel), List.mem_of_getElem? (i := 1071) (by decide +kernel)⟩
def lw_privs_3 : List (MethodName × Nat) := [(⟨"DimBooksModel", "vote", "(I)I"⟩, 25), (⟨"DimBooksModel", "votesFor", "(II)I"⟩, 25), (⟨"DimBooksModel", "isReader", "(I)Z"⟩, 25), (⟨"DimBooksModel", "knownBy", "(I)I"⟩, 25), (⟨"DimBooksModel", "isPage", "(I)Z"⟩, 25), (⟨"DimBooksModel", "readMany", "(I)I"⟩, 25), (⟨"DimBooksModel", "readPage", "(III)V"⟩, 25), (⟨"DimBooksModel", "know", "(IIII)V"⟩, 25), (⟨"DimBooksModel", "make", "(III)I"⟩, 25), (⟨"DimBooksModel", "draw", "(II)I"⟩, 25), (⟨"DimBooksModel", "darken", "(I)V"⟩, 25), (⟨"DimBooksModel", "runDays", "(II)V"⟩, 25), (⟨"DimBooksModel", "grantAll", "(II)I"⟩, 25), (⟨"DimBooksModel", "palest", "(II)I"⟩, 25), (⟨"DimBooksModel", "sumBy", "(II)I"⟩, 25), (⟨"DimBooksModel", "copyRow", "(II)V"⟩, 25)]
theorem lw_r3 : ∀ q ∈ lw_privs_3, lw_okq q := List.forall_mem_cons.mpr ⟨lw_p32, List.forall_mem_cons.mpr ⟨lw_p33, List.forall_mem_cons.mpr ⟨lw_p34, List.forall_mem_cons.mpr ⟨lw_p35, List.forall_mem_cons.mpr ⟨lw_p36, List.forall_mem_cons.mpr ⟨lw_p37, List.forall_mem_cons.mpr ⟨lw_p38, List.forall_mem_cons.mpr ⟨lw_p39, List.forall_mem_cons.mpr ⟨lw_p40, List.forall_mem_cons.mpr ⟨lw_p41, List.forall_mem_cons.mpr ⟨lw_p42, List.forall_mem_cons.mpr ⟨lw_p43, List.forall_mem_cons.mpr ⟨lw_p44, List.forall_mem_cons.mpr ⟨lw_p45, List.forall_mem_cons.mpr ⟨lw_p46, List.forall_mem_cons.mpr ⟨lw_p47, fun _ h => absurd h List.not_mem_nil⟩⟩⟩⟩⟩⟩⟩⟩⟩⟩⟩⟩⟩⟩⟩⟩
theorem lw_p48 : lw_okq (⟨"DimBooksModel", "fewest", "(II)I"⟩, 25) := ⟨⟨by decide +kernel, by decide +kernel⟩, List.mem_of_getElem? (i := 764) (by decide +kernel), List.mem_of_getElem? (i := 1078) (by decide +kernel), List.mem_of_getElem? (i := 1079) (by decide +kernel)⟩
theorem lw_p49 : lw_okq (⟨"DimBooksModel", "isTrue", "(II)Z"⟩, 25) := ⟨⟨by decide +kernel, by decide +kernel⟩, List.mem_of_getElem? (i := 764) (by decide +kernel), List.mem_of_getElem? (i := 1082) (by decide +kernel), List.mem_of_getElem? (i := 1083) (by decide +kernel)⟩
def lw_privs_4 : List (MethodName × Nat) := [(⟨"DimBooksModel", "fewest", "(II)I"⟩, 25), (⟨"DimBooksModel", "isTrue", "(II)Z"⟩, 25)]
theorem lw_r4 : ∀ q ∈ lw_privs_4, lw_okq q := List.forall_mem_cons.mpr ⟨lw_p48, List.forall_mem_cons.mpr ⟨lw_p49, fun _ h => absurd h List.not_mem_nil⟩⟩
def lw_privs : List (MethodName × Nat) := lw_privs_1 ++ (lw_privs_2 ++ (lw_privs_3 ++ (lw_privs_4)))
def lw_tbl : List Cond := k2_sels lw_privs ++ tables_1
theorem lw_privs_ok : ∀ q ∈ lw_privs, lw_okq q := by
  show ∀ q ∈ lw_privs_1 ++ (lw_privs_2 ++ (lw_privs_3 ++ (lw_privs_4))), lw_okq q
  exact List.forall_mem_append.mpr ⟨lw_r1, List.forall_mem_append.mpr ⟨lw_r2, List.forall_mem_append.mpr ⟨lw_r3, lw_r4⟩⟩⟩
end
section
/-! ===== BEGIN words of one list among another's, by their places ===== -/
theorem goodIn_r {big : List Cond} (ws : List Cond) (ps : List Nat) (hp : ws = ps.filterMap (fun i => big[i]?)) (h : ws.all goodWord = true) : GoodIn big ws := by
  intro w hw
  have h1 := List.all_eq_true.mp h w hw
  rw [hp] at hw
  obtain ⟨i, -, hi⟩ := List.mem_filterMap.mp hw
  have hm : w ∈ big := by first | exact List.mem_of_getElem? hi | exact List.getElem?_mem hi
  exact ⟨hm, good_of_word h1⟩
theorem goodIn_app {big a b : List Cond} (ha : GoodIn big a) (hb : GoodIn big b) : GoodIn big (a ++ b) := fun w h => (List.mem_append.mp h).elim (ha w) (hb w)
theorem goodIn_ca {big a b : List Cond} {c : Cond} (ha : GoodIn big (c :: a)) (hb : GoodIn big b) : GoodIn big (c :: (a ++ b)) := fun w h => (List.mem_cons.mp h).elim (fun e => ha w (List.mem_cons.mpr (Or.inl e))) (fun h => (List.mem_append.mp h).elim (fun h => ha w (List.mem_cons.mpr (Or.inr h))) (hb w))
theorem goodIn_sub {big ws : List Cond} (hm : ∀ w ∈ ws, w ∈ big) (h : ws.all goodWord = true) : GoodIn big ws := fun w hw => ⟨hm w hw, good_of_word (List.all_eq_true.mp h w hw)⟩
/-! ===== END ===== -/

/-! ===== BEGIN printed: names, fields, word lists, decode rows ===== -/
def RX0 : String := "DimBooks$Choice"
def TX0 : u_T := fun k => match k with
  | 0 => ("DimBooks$Choice", "set", "I", false)
  | 1 => ("DimBooks$Choice", "sum", "I", false)
  | _ => ("DimBooks$Choice", "lost", "I", false)
def tyX0 : Nat → FieldType := fun k => match k with
  | 0 => .int
  | 1 => .int
  | _ => .int
abbrev wsX00 : List Cond := u_ws RX0 TX0 3
theorem nmX0 : ∀ a, a < 3 → ∀ b, b < 3 → a ≠ b → (TX0 a).2.1 ≠ (TX0 b).2.1 := by decide +kernel
theorem tyX0_ok : ∀ k, k < 3 → parseFieldDescriptor (TX0 k).2.2.1 = some (tyX0 k) := by decide +kernel
abbrev cX0_init : ByteArray := prog_2_method_1_code
def yX0_init : MethodName := ⟨RX0, "<init>", "()V"⟩
abbrev cX0_clear : ByteArray := prog_2_method_2_code
def yX0_clear : MethodName := ⟨RX0, "clear", "()V"⟩
abbrev cX0_addLine : ByteArray := prog_2_method_3_code
def yX0_addLine : MethodName := ⟨RX0, "addLine", "(IIIZ)V"⟩
def RX1 : String := "DimBooks$Library"
def TX1 : u_T := fun k => match k with
  | 0 => ("DimBooks$Library", "worths", "[I", true)
  | 1 => ("DimBooks$Library", "firstShades", "[I", true)
  | 2 => ("DimBooks$Library", "kinds", "[I", true)
  | 3 => ("DimBooks$Library", "terms", "[I", true)
  | 4 => ("DimBooks$Library", "lines", "I", false)
  | 5 => ("DimBooks$Library", "readers", "I", false)
  | 6 => ("DimBooks$Library", "error", "I", false)
  | _ => ("DimBooks$Library", "errorTold", "Z", false)
def tyX1 : Nat → FieldType := fun k => match k with
  | 0 => .array .int
  | 1 => .array .int
  | 2 => .array .int
  | 3 => .array .int
  | 4 => .int
  | 5 => .int
  | 6 => .int
  | _ => .boolean
abbrev wsX10 : List Cond := u_ws RX1 TX1 8
theorem nmX1 : ∀ a, a < 8 → ∀ b, b < 8 → a ≠ b → (TX1 a).2.1 ≠ (TX1 b).2.1 := by decide +kernel
theorem tyX1_ok : ∀ k, k < 8 → parseFieldDescriptor (TX1 k).2.2.1 = some (tyX1 k) := by decide +kernel
abbrev cX1_init : ByteArray := prog_3_method_1_code
def yX1_init : MethodName := ⟨RX1, "<init>", "()V"⟩
abbrev cX1_clear : ByteArray := prog_3_method_2_code
def yX1_clear : MethodName := ⟨RX1, "clear", "()V"⟩
abbrev cX1_copyFrom : ByteArray := prog_3_method_3_code
def yX1_copyFrom : MethodName := ⟨RX1, "copyFrom", "(LDimBooks$Library;)V"⟩
abbrev cX1_addLine : ByteArray := prog_3_method_4_code
def yX1_addLine : MethodName := ⟨RX1, "addLine", "(II)V"⟩
abbrev cX1_addReader : ByteArray := prog_3_method_5_code
def yX1_addReader : MethodName := ⟨RX1, "addReader", "(II)V"⟩
abbrev cX1_tellError : ByteArray := prog_3_method_6_code
def yX1_tellError : MethodName := ⟨RX1, "tellError", "(I)V"⟩
abbrev cX1_hasLine : ByteArray := prog_3_method_7_code
def yX1_hasLine : MethodName := ⟨RX1, "hasLine", "(I)Z"⟩
abbrev cX1_hasReader : ByteArray := prog_3_method_8_code
def yX1_hasReader : MethodName := ⟨RX1, "hasReader", "(I)Z"⟩
abbrev cX1_readersOfKind : ByteArray := prog_3_method_9_code
def yX1_readersOfKind : MethodName := ⟨RX1, "readersOfKind", "(I)I"⟩
def RX2 : String := "DimBooks$Log"
def TX2 : u_T := fun k => match k with
  | 0 => ("DimBooks$Log", "days", "[I", true)
  | 1 => ("DimBooks$Log", "pages", "[I", true)
  | 2 => ("DimBooks$Log", "readers", "[I", true)
  | _ => ("DimBooks$Log", "count", "I", false)
def tyX2 : Nat → FieldType := fun k => match k with
  | 0 => .array .int
  | 1 => .array .int
  | 2 => .array .int
  | _ => .int
abbrev wsX20 : List Cond := u_ws RX2 TX2 4
theorem nmX2 : ∀ a, a < 4 → ∀ b, b < 4 → a ≠ b → (TX2 a).2.1 ≠ (TX2 b).2.1 := by decide +kernel
theorem tyX2_ok : ∀ k, k < 4 → parseFieldDescriptor (TX2 k).2.2.1 = some (tyX2 k) := by decide +kernel
abbrev cX2_init : ByteArray := prog_4_method_1_code
def yX2_init : MethodName := ⟨RX2, "<init>", "()V"⟩
abbrev cX2_add : ByteArray := prog_4_method_2_code
def yX2_add : MethodName := ⟨RX2, "add", "(III)V"⟩
abbrev cX2_timesRead : ByteArray := prog_4_method_3_code
def yX2_timesRead : MethodName := ⟨RX2, "timesRead", "(I)I"⟩
abbrev cX2_copyFrom : ByteArray := prog_4_method_4_code
def yX2_copyFrom : MethodName := ⟨RX2, "copyFrom", "(LDimBooks$Log;)V"⟩
def RX3 : String := "DimBooks$Requests"
def TX3 : u_T := fun k => match k with
  | 0 => ("DimBooks$Requests", "readers", "[I", true)
  | 1 => ("DimBooks$Requests", "lines", "[I", true)
  | 2 => ("DimBooks$Requests", "worths", "[I", true)
  | _ => ("DimBooks$Requests", "count", "I", false)
def tyX3 : Nat → FieldType := fun k => match k with
  | 0 => .array .int
  | 1 => .array .int
  | 2 => .array .int
  | _ => .int
abbrev wsX30 : List Cond := u_ws RX3 TX3 4
theorem nmX3 : ∀ a, a < 4 → ∀ b, b < 4 → a ≠ b → (TX3 a).2.1 ≠ (TX3 b).2.1 := by decide +kernel
theorem tyX3_ok : ∀ k, k < 4 → parseFieldDescriptor (TX3 k).2.2.1 = some (tyX3 k) := by decide +kernel
abbrev cX3_init : ByteArray := prog_5_method_1_code
def yX3_init : MethodName := ⟨RX3, "<init>", "()V"⟩
abbrev cX3_add : ByteArray := prog_5_method_2_code
def yX3_add : MethodName := ⟨RX3, "add", "(III)I"⟩
abbrev cX3_forLine : ByteArray := prog_5_method_3_code
def yX3_forLine : MethodName := ⟨RX3, "forLine", "(I)I"⟩
abbrev cX3_fulfil : ByteArray := prog_5_method_4_code
def yX3_fulfil : MethodName := ⟨RX3, "fulfil", "(ILDimBooks$State;)I"⟩
def RX4 : String := "DimBooks$Script"
def TX4 : u_T := fun k => match k with
  | 0 => ("DimBooks$Script", "bytes", "[I", true)
  | 1 => ("DimBooks$Script", "length", "I", false)
  | 2 => ("DimBooks$Script", "fault", "I", false)
  | 3 => ("DimBooks$Script", "faultAt", "I", false)
  | _ => ("DimBooks$Script", "at", "I", false)
def tyX4 : Nat → FieldType := fun k => match k with
  | 0 => .array .int
  | 1 => .int
  | 2 => .int
  | 3 => .int
  | _ => .int
abbrev wsX40 : List Cond := u_ws RX4 TX4 5
theorem nmX4 : ∀ a, a < 5 → ∀ b, b < 5 → a ≠ b → (TX4 a).2.1 ≠ (TX4 b).2.1 := by decide +kernel
theorem tyX4_ok : ∀ k, k < 5 → parseFieldDescriptor (TX4 k).2.2.1 = some (tyX4 k) := by decide +kernel
abbrev cX4_init : ByteArray := prog_6_method_1_code
def yX4_init : MethodName := ⟨RX4, "<init>", "()V"⟩
abbrev cX4_append : ByteArray := prog_6_method_2_code
def yX4_append : MethodName := ⟨RX4, "append", "(I)V"⟩
abbrev cX4_parseInto : ByteArray := prog_6_method_3_code
def yX4_parseInto : MethodName := ⟨RX4, "parseInto", "(LDimBooks$Library;)V"⟩
abbrev cX4_parseClause : ByteArray := prog_6_method_4_code
def yX4_parseClause : MethodName := ⟨RX4, "parseClause", "(LDimBooks$Library;)V"⟩
abbrev cX4_parseLine : ByteArray := prog_6_method_5_code
def yX4_parseLine : MethodName := ⟨RX4, "parseLine", "(LDimBooks$Library;I)V"⟩
abbrev cX4_parseReader : ByteArray := prog_6_method_6_code
def yX4_parseReader : MethodName := ⟨RX4, "parseReader", "(LDimBooks$Library;I)V"⟩
abbrev cX4_parseError : ByteArray := prog_6_method_7_code
def yX4_parseError : MethodName := ⟨RX4, "parseError", "(LDimBooks$Library;I)V"⟩
abbrev cX4_takeKind : ByteArray := prog_6_method_8_code
def yX4_takeKind : MethodName := ⟨RX4, "takeKind", "()I"⟩
abbrev cX4_takeNumber : ByteArray := prog_6_method_9_code
def yX4_takeNumber : MethodName := ⟨RX4, "takeNumber", "(II)I"⟩
abbrev cX4_takeEnd : ByteArray := prog_6_method_10_code
def yX4_takeEnd : MethodName := ⟨RX4, "takeEnd", "()V"⟩
abbrev cX4_skipBlanks : ByteArray := prog_6_method_11_code
def yX4_skipBlanks : MethodName := ⟨RX4, "skipBlanks", "()V"⟩
abbrev cX4_wordEnd : ByteArray := prog_6_method_12_code
def yX4_wordEnd : MethodName := ⟨RX4, "wordEnd", "()I"⟩
abbrev cX4_spells : ByteArray := prog_6_method_13_code
def yX4_spells : MethodName := ⟨RX4, "spells", "(IILjava/lang/String;)Z"⟩
abbrev cX4_isFigure : ByteArray := prog_6_method_14_code
def yX4_isFigure : MethodName := ⟨RX4, "isFigure", "(I)Z"⟩
abbrev cX4_fail : ByteArray := prog_6_method_15_code
def yX4_fail : MethodName := ⟨RX4, "fail", "(II)V"⟩
def RX5 : String := "DimBooks$State"
def TX5 : u_T := fun k => match k with
  | 0 => ("DimBooks$State", "lib", "LDimBooks$Library;", true)
  | 1 => ("DimBooks$State", "log", "LDimBooks$Log;", true)
  | 2 => ("DimBooks$State", "lineOf", "[I", true)
  | 3 => ("DimBooks$State", "variantOf", "[I", true)
  | 4 => ("DimBooks$State", "shadeOf", "[I", true)
  | 5 => ("DimBooks$State", "writerOf", "[I", true)
  | 6 => ("DimBooks$State", "variantHeld", "[I", true)
  | 7 => ("DimBooks$State", "daySince", "[I", true)
  | 8 => ("DimBooks$State", "entryShades", "[I", true)
  | 9 => ("DimBooks$State", "pages", "I", false)
  | 10 => ("DimBooks$State", "day", "I", false)
  | _ => ("DimBooks$State", "seed", "I", false)
def tyX5 : Nat → FieldType := fun k => match k with
  | 0 => .object "DimBooks$Library"
  | 1 => .object "DimBooks$Log"
  | 2 => .array .int
  | 3 => .array .int
  | 4 => .array .int
  | 5 => .array .int
  | 6 => .array .int
  | 7 => .array .int
  | 8 => .array .int
  | 9 => .int
  | 10 => .int
  | _ => .int
abbrev wsX50 : List Cond := u_ws RX5 TX5 12
theorem nmX5 : ∀ a, a < 12 → ∀ b, b < 12 → a ≠ b → (TX5 a).2.1 ≠ (TX5 b).2.1 := by decide +kernel
theorem tyX5_ok : ∀ k, k < 12 → parseFieldDescriptor (TX5 k).2.2.1 = some (tyX5 k) := by decide +kernel
abbrev cX5_init : ByteArray := prog_7_method_1_code
def yX5_init : MethodName := ⟨RX5, "<init>", "(LDimBooks$Library;)V"⟩
abbrev cX5_open : ByteArray := prog_7_method_2_code
def yX5_open : MethodName := ⟨RX5, "open", "()V"⟩
abbrev cX5_copyFrom : ByteArray := prog_7_method_3_code
def yX5_copyFrom : MethodName := ⟨RX5, "copyFrom", "(LDimBooks$State;)V"⟩
abbrev cX5_copyBooks : ByteArray := prog_7_method_4_code
def yX5_copyBooks : MethodName := ⟨RX5, "copyBooks", "(LDimBooks$State;)V"⟩
abbrev cX5_hasPage : ByteArray := prog_7_method_5_code
def yX5_hasPage : MethodName := ⟨RX5, "hasPage", "(I)Z"⟩
abbrev cX5_isGone : ByteArray := prog_7_method_6_code
def yX5_isGone : MethodName := ⟨RX5, "isGone", "(I)Z"⟩
abbrev cX5_isFull : ByteArray := prog_7_method_7_code
def yX5_isFull : MethodName := ⟨RX5, "isFull", "()Z"⟩
abbrev cX5_heart : ByteArray := prog_7_method_8_code
def yX5_heart : MethodName := ⟨RX5, "heart", "(II)I"⟩
abbrev cX5_variantAt : ByteArray := prog_7_method_9_code
def yX5_variantAt : MethodName := ⟨RX5, "variantAt", "(III)I"⟩
abbrev cX5_variantKnown : ByteArray := prog_7_method_10_code
def yX5_variantKnown : MethodName := ⟨RX5, "variantKnown", "(II)I"⟩
abbrev cX5_knowsAny : ByteArray := prog_7_method_11_code
def yX5_knowsAny : MethodName := ⟨RX5, "knowsAny", "(II)Z"⟩
abbrev cX5_dayLearnt : ByteArray := prog_7_method_12_code
def yX5_dayLearnt : MethodName := ⟨RX5, "dayLearnt", "(II)I"⟩
abbrev cX5_learn : ByteArray := prog_7_method_13_code
def yX5_learn : MethodName := ⟨RX5, "learn", "(III)V"⟩
abbrev cX5_readPage : ByteArray := prog_7_method_14_code
def yX5_readPage : MethodName := ⟨RX5, "readPage", "(II)V"⟩
abbrev cX5_addPage : ByteArray := prog_7_method_15_code
def yX5_addPage : MethodName := ⟨RX5, "addPage", "(III)I"⟩
abbrev cX5_draw : ByteArray := prog_7_method_16_code
def yX5_draw : MethodName := ⟨RX5, "draw", "(I)I"⟩
abbrev cX5_daysAhead : ByteArray := prog_7_method_17_code
def yX5_daysAhead : MethodName := ⟨RX5, "daysAhead", "(I)I"⟩
abbrev cX5_passDusks : ByteArray := prog_7_method_18_code
def yX5_passDusks : MethodName := ⟨RX5, "passDusks", "(I)V"⟩
abbrev cX5_liveByDraws : ByteArray := prog_7_method_19_code
def yX5_liveByDraws : MethodName := ⟨RX5, "liveByDraws", "(I)V"⟩
abbrev cX5_isKept : ByteArray := prog_7_method_20_code
def yX5_isKept : MethodName := ⟨RX5, "isKept", "(II)Z"⟩
abbrev cX5_countKept : ByteArray := prog_7_method_21_code
def yX5_countKept : MethodName := ⟨RX5, "countKept", "(I)I"⟩
abbrev cX5_countGone : ByteArray := prog_7_method_22_code
def yX5_countGone : MethodName := ⟨RX5, "countGone", "()I"⟩
abbrev cX5_isLeft : ByteArray := prog_7_method_23_code
def yX5_isLeft : MethodName := ⟨RX5, "isLeft", "(II)Z"⟩
abbrev cX5_pagesLeft : ByteArray := prog_7_method_24_code
def yX5_pagesLeft : MethodName := ⟨RX5, "pagesLeft", "(I)I"⟩
abbrev cX5_pagesLeftWith : ByteArray := prog_7_method_25_code
def yX5_pagesLeftWith : MethodName := ⟨RX5, "pagesLeftWith", "(II)I"⟩
abbrev cX5_truePages : ByteArray := prog_7_method_26_code
def yX5_truePages : MethodName := ⟨RX5, "truePages", "(I)I"⟩
abbrev cX5_trueReadingsLeft : ByteArray := prog_7_method_27_code
def yX5_trueReadingsLeft : MethodName := ⟨RX5, "trueReadingsLeft", "(I)I"⟩
abbrev cX5_firstPage : ByteArray := prog_7_method_28_code
def yX5_firstPage : MethodName := ⟨RX5, "firstPage", "(I)I"⟩
abbrev cX5_darkestPage : ByteArray := prog_7_method_29_code
def yX5_darkestPage : MethodName := ⟨RX5, "darkestPage", "(I)I"⟩
abbrev cX5_knowers : ByteArray := prog_7_method_30_code
def yX5_knowers : MethodName := ⟨RX5, "knowers", "(I)I"⟩
abbrev cX5_knowersOf : ByteArray := prog_7_method_31_code
def yX5_knowersOf : MethodName := ⟨RX5, "knowersOf", "(II)I"⟩
abbrev cX5_trueKnowers : ByteArray := prog_7_method_32_code
def yX5_trueKnowers : MethodName := ⟨RX5, "trueKnowers", "(I)I"⟩
abbrev cX5_linesKnown : ByteArray := prog_7_method_33_code
def yX5_linesKnown : MethodName := ⟨RX5, "linesKnown", "(I)I"⟩
abbrev cX5_voteOn : ByteArray := prog_7_method_34_code
def yX5_voteOn : MethodName := ⟨RX5, "voteOn", "(I)I"⟩
abbrev cX5_canBeCopied : ByteArray := prog_7_method_35_code
def yX5_canBeCopied : MethodName := ⟨RX5, "canBeCopied", "(III)Z"⟩
abbrev cX5_firstWriter : ByteArray := prog_7_method_36_code
def yX5_firstWriter : MethodName := ⟨RX5, "firstWriter", "(II)I"⟩
def RX6 : String := "DimBooks"
def TX6 : u_T := fun k => match k with
  | 0 => ("DimBooks", "script", "LDimBooks$Script;", true)
  | 1 => ("DimBooks", "draft", "LDimBooks$Library;", true)
  | 2 => ("DimBooks", "lib", "LDimBooks$Library;", true)
  | 3 => ("DimBooks", "now", "LDimBooks$State;", true)
  | 4 => ("DimBooks", "trial", "LDimBooks$State;", true)
  | 5 => ("DimBooks", "images", "[LDimBooks$State;", true)
  | 6 => ("DimBooks", "imagesKept", "I", false)
  | 7 => ("DimBooks", "requests", "LDimBooks$Requests;", true)
  | 8 => ("DimBooks", "choice", "LDimBooks$Choice;", true)
  | 9 => ("DimBooks", "diary", "[I", true)
  | 10 => ("DimBooks", "entries", "I", false)
  | _ => ("DimBooks", "odds", "[I", true)
def tyX6 : Nat → FieldType := fun k => match k with
  | 0 => .object "DimBooks$Script"
  | 1 => .object "DimBooks$Library"
  | 2 => .object "DimBooks$Library"
  | 3 => .object "DimBooks$State"
  | 4 => .object "DimBooks$State"
  | 5 => .array (.object "DimBooks$State")
  | 6 => .int
  | 7 => .object "DimBooks$Requests"
  | 8 => .object "DimBooks$Choice"
  | 9 => .array .int
  | 10 => .int
  | _ => .array .int
abbrev wsX60 : List Cond := u_ws RX6 TX6 12
theorem nmX6 : ∀ a, a < 12 → ∀ b, b < 12 → a ≠ b → (TX6 a).2.1 ≠ (TX6 b).2.1 := by decide +kernel
theorem tyX6_ok : ∀ k, k < 12 → parseFieldDescriptor (TX6 k).2.2.1 = some (tyX6 k) := by decide +kernel
abbrev cX6_init : ByteArray := prog_1_method_1_code
def yX6_init : MethodName := ⟨RX6, "<init>", "()V"⟩
abbrev cX6_feed : ByteArray := prog_1_method_2_code
def yX6_feed : MethodName := ⟨RX6, "feed", "(IJ)I"⟩
abbrev cX6_library : ByteArray := prog_1_method_3_code
def yX6_library : MethodName := ⟨RX6, "library", "()I"⟩
abbrev cX6_fault : ByteArray := prog_1_method_4_code
def yX6_fault : MethodName := ⟨RX6, "fault", "()I"⟩
abbrev cX6_told : ByteArray := prog_1_method_5_code
def yX6_told : MethodName := ⟨RX6, "told", "(I)I"⟩
abbrev cX6_line : ByteArray := prog_1_method_6_code
def yX6_line : MethodName := ⟨RX6, "line", "(II)I"⟩
abbrev cX6_reader : ByteArray := prog_1_method_7_code
def yX6_reader : MethodName := ⟨RX6, "reader", "(II)I"⟩
abbrev cX6_page : ByteArray := prog_1_method_8_code
def yX6_page : MethodName := ⟨RX6, "page", "(II)I"⟩
abbrev cX6_knows : ByteArray := prog_1_method_9_code
def yX6_knows : MethodName := ⟨RX6, "knows", "(III)I"⟩
abbrev cX6_reading : ByteArray := prog_1_method_10_code
def yX6_reading : MethodName := ⟨RX6, "reading", "(II)I"⟩
abbrev cX6_read : ByteArray := prog_1_method_11_code
def yX6_read : MethodName := ⟨RX6, "read", "(II)I"⟩
abbrev cX6_copy : ByteArray := prog_1_method_12_code
def yX6_copy : MethodName := ⟨RX6, "copy", "(II)I"⟩
abbrev cX6_write : ByteArray := prog_1_method_13_code
def yX6_write : MethodName := ⟨RX6, "write", "(II)I"⟩
abbrev cX6_teach : ByteArray := prog_1_method_14_code
def yX6_teach : MethodName := ⟨RX6, "teach", "(III)I"⟩
abbrev cX6_dusk : ByteArray := prog_1_method_15_code
def yX6_dusk : MethodName := ⟨RX6, "dusk", "(I)I"⟩
abbrev cX6_run : ByteArray := prog_1_method_16_code
def yX6_run : MethodName := ⟨RX6, "run", "(I)I"⟩
abbrev cX6_where : ByteArray := prog_1_method_17_code
def yX6_where : MethodName := ⟨RX6, "where", "(I)I"⟩
abbrev cX6_request : ByteArray := prog_1_method_18_code
def yX6_request : MethodName := ⟨RX6, "request", "(III)I"⟩
abbrev cX6_forget : ByteArray := prog_1_method_19_code
def yX6_forget : MethodName := ⟨RX6, "forget", "()I"⟩
abbrev cX6_grant : ByteArray := prog_1_method_20_code
def yX6_grant : MethodName := ⟨RX6, "grant", "(I)I"⟩
abbrev cX6_best : ByteArray := prog_1_method_21_code
def yX6_best : MethodName := ⟨RX6, "best", "(II)I"⟩
abbrev cX6_chooseFor : ByteArray := prog_1_method_22_code
def yX6_chooseFor : MethodName := ⟨RX6, "chooseFor", "(II)V"⟩
abbrev cX6_toKnow : ByteArray := prog_1_method_23_code
def yX6_toKnow : MethodName := ⟨RX6, "toKnow", "(II)I"⟩
abbrev cX6_fewestToKnow : ByteArray := prog_1_method_24_code
def yX6_fewestToKnow : MethodName := ⟨RX6, "fewestToKnow", "(II)I"⟩
abbrev cX6_pagesAllow : ByteArray := prog_1_method_25_code
def yX6_pagesAllow : MethodName := ⟨RX6, "pagesAllow", "(II)Z"⟩
abbrev cX6_life : ByteArray := prog_1_method_26_code
def yX6_life : MethodName := ⟨RX6, "life", "(III)I"⟩
abbrev cX6_right : ByteArray := prog_1_method_27_code
def yX6_right : MethodName := ⟨RX6, "right", "(I)I"⟩
abbrev cX6_claim : ByteArray := prog_1_method_28_code
def yX6_claim : MethodName := ⟨RX6, "claim", "(III)I"⟩
abbrev cX6_whence : ByteArray := prog_1_method_29_code
def yX6_whence : MethodName := ⟨RX6, "whence", "(II)I"⟩
abbrev cX6_span : ByteArray := prog_1_method_30_code
def yX6_span : MethodName := ⟨RX6, "span", "(III)I"⟩
abbrev cX6_note : ByteArray := prog_1_method_31_code
def yX6_note : MethodName := ⟨RX6, "note", "(I)I"⟩
abbrev cX6_tear : ByteArray := prog_1_method_32_code
def yX6_tear : MethodName := ⟨RX6, "tear", "()I"⟩
abbrev cX6_judge : ByteArray := prog_1_method_33_code
def yX6_judge : MethodName := ⟨RX6, "judge", "()I"⟩
abbrev cX6_seed : ByteArray := prog_1_method_34_code
def yX6_seed : MethodName := ⟨RX6, "seed", "(I)I"⟩
abbrev cX6_keep : ByteArray := prog_1_method_35_code
def yX6_keep : MethodName := ⟨RX6, "keep", "(I)I"⟩
abbrev cX6_goBack : ByteArray := prog_1_method_36_code
def yX6_goBack : MethodName := ⟨RX6, "goBack", "(I)I"⟩
abbrev cX6_has : ByteArray := prog_1_method_37_code
def yX6_has : MethodName := ⟨RX6, "has", "(II)Z"⟩
abbrev cX6_isSetOf : ByteArray := prog_1_method_38_code
def yX6_isSetOf : MethodName := ⟨RX6, "isSetOf", "(II)Z"⟩
def RX7 : String := "DimBooksModel"
def TX7 : u_T := fun k => match k with
  | 0 => ("DimBooksModel", "w", "[I", true)
  | 1 => ("DimBooksModel", "isKept", "[Z", true)
  | 2 => ("DimBooksModel", "worths", "[I", true)
  | 3 => ("DimBooksModel", "shades", "[I", true)
  | 4 => ("DimBooksModel", "kinds", "[I", true)
  | 5 => ("DimBooksModel", "fades", "[I", true)
  | 6 => ("DimBooksModel", "many", "[I", true)
  | 7 => ("DimBooksModel", "error", "I", false)
  | 8 => ("DimBooksModel", "newError", "I", false)
  | 9 => ("DimBooksModel", "isTold", "Z", false)
  | 10 => ("DimBooksModel", "text", "[I", true)
  | 11 => ("DimBooksModel", "textSize", "I", false)
  | 12 => ("DimBooksModel", "at", "I", false)
  | 13 => ("DimBooksModel", "first", "I", false)
  | 14 => ("DimBooksModel", "length", "I", false)
  | 15 => ("DimBooksModel", "faultOf", "I", false)
  | 16 => ("DimBooksModel", "fault", "I", false)
  | 17 => ("DimBooksModel", "requests", "I", false)
  | 18 => ("DimBooksModel", "asker", "[I", true)
  | 19 => ("DimBooksModel", "asked", "[I", true)
  | 20 => ("DimBooksModel", "offered", "[I", true)
  | 21 => ("DimBooksModel", "lostBy", "I", false)
  | 22 => ("DimBooksModel", "odds", "[I", true)
  | 23 => ("DimBooksModel", "notes", "[I", true)
  | _ => ("DimBooksModel", "noted", "I", false)
def tyX7 : Nat → FieldType := fun k => match k with
  | 0 => .array .int
  | 1 => .array .boolean
  | 2 => .array .int
  | 3 => .array .int
  | 4 => .array .int
  | 5 => .array .int
  | 6 => .array .int
  | 7 => .int
  | 8 => .int
  | 9 => .boolean
  | 10 => .array .int
  | 11 => .int
  | 12 => .int
  | 13 => .int
  | 14 => .int
  | 15 => .int
  | 16 => .int
  | 17 => .int
  | 18 => .array .int
  | 19 => .array .int
  | 20 => .array .int
  | 21 => .int
  | 22 => .array .int
  | 23 => .array .int
  | _ => .int
abbrev wsX70 : List Cond := u_ws RX7 TX7 25
theorem nmX7 : ∀ a, a < 25 → ∀ b, b < 25 → a ≠ b → (TX7 a).2.1 ≠ (TX7 b).2.1 := by decide +kernel
theorem tyX7_ok : ∀ k, k < 25 → parseFieldDescriptor (TX7 k).2.2.1 = some (tyX7 k) := by decide +kernel
abbrev cX7_init : ByteArray := prog_9_method_1_code
def yX7_init : MethodName := ⟨RX7, "<init>", "()V"⟩
abbrev cX7_in : ByteArray := prog_9_method_3_code
def yX7_in : MethodName := ⟨RX7, "in", "(JJJ)Z"⟩
abbrev cX7_one : ByteArray := prog_9_method_4_code
def yX7_one : MethodName := ⟨RX7, "one", "(Z)I"⟩
abbrev cX7_has : ByteArray := prog_9_method_5_code
def yX7_has : MethodName := ⟨RX7, "has", "(II)Z"⟩
abbrev cX7_ones : ByteArray := prog_9_method_6_code
def yX7_ones : MethodName := ⟨RX7, "ones", "(I)I"⟩
abbrev cX7_feed : ByteArray := prog_9_method_7_code
def yX7_feed : MethodName := ⟨RX7, "feed", "(IJ)I"⟩
abbrev cX7_here : ByteArray := prog_9_method_8_code
def yX7_here : MethodName := ⟨RX7, "here", "()I"⟩
abbrev cX7_want : ByteArray := prog_9_method_9_code
def yX7_want : MethodName := ⟨RX7, "want", "(ZII)Z"⟩
abbrev cX7_takeWord : ByteArray := prog_9_method_10_code
def yX7_takeWord : MethodName := ⟨RX7, "takeWord", "()V"⟩
abbrev cX7_isWord : ByteArray := prog_9_method_11_code
def yX7_isWord : MethodName := ⟨RX7, "isWord", "(IIIIIIII)Z"⟩
abbrev cX7_takeNumber : ByteArray := prog_9_method_12_code
def yX7_takeNumber : MethodName := ⟨RX7, "takeNumber", "(II)I"⟩
abbrev cX7_kindHere : ByteArray := prog_9_method_13_code
def yX7_kindHere : MethodName := ⟨RX7, "kindHere", "()I"⟩
abbrev cX7_takeClause : ByteArray := prog_9_method_14_code
def yX7_takeClause : MethodName := ⟨RX7, "takeClause", "()V"⟩
abbrev cX7_library : ByteArray := prog_9_method_15_code
def yX7_library : MethodName := ⟨RX7, "library", "()I"⟩
abbrev cX7_fault : ByteArray := prog_9_method_16_code
def yX7_fault : MethodName := ⟨RX7, "fault", "()I"⟩
abbrev cX7_isLine : ByteArray := prog_9_method_17_code
def yX7_isLine : MethodName := ⟨RX7, "isLine", "(I)Z"⟩
abbrev cX7_isReader : ByteArray := prog_9_method_18_code
def yX7_isReader : MethodName := ⟨RX7, "isReader", "(I)Z"⟩
abbrev cX7_isPage : ByteArray := prog_9_method_19_code
def yX7_isPage : MethodName := ⟨RX7, "isPage", "(I)Z"⟩
abbrev cX7_copyRow : ByteArray := prog_9_method_20_code
def yX7_copyRow : MethodName := ⟨RX7, "copyRow", "(II)V"⟩
abbrev cX7_isKeptLine : ByteArray := prog_9_method_21_code
def yX7_isKeptLine : MethodName := ⟨RX7, "isKeptLine", "(II)Z"⟩
abbrev cX7_keptMany : ByteArray := prog_9_method_22_code
def yX7_keptMany : MethodName := ⟨RX7, "keptMany", "(I)I"⟩
abbrev cX7_told : ByteArray := prog_9_method_23_code
def yX7_told : MethodName := ⟨RX7, "told", "(I)I"⟩
abbrev cX7_pagesOf : ByteArray := prog_9_method_24_code
def yX7_pagesOf : MethodName := ⟨RX7, "pagesOf", "(I)I"⟩
abbrev cX7_knowers : ByteArray := prog_9_method_25_code
def yX7_knowers : MethodName := ⟨RX7, "knowers", "(I)I"⟩
abbrev cX7_votesFor : ByteArray := prog_9_method_26_code
def yX7_votesFor : MethodName := ⟨RX7, "votesFor", "(II)I"⟩
abbrev cX7_vote : ByteArray := prog_9_method_27_code
def yX7_vote : MethodName := ⟨RX7, "vote", "(I)I"⟩
abbrev cX7_line : ByteArray := prog_9_method_28_code
def yX7_line : MethodName := ⟨RX7, "line", "(II)I"⟩
abbrev cX7_knownBy : ByteArray := prog_9_method_29_code
def yX7_knownBy : MethodName := ⟨RX7, "knownBy", "(I)I"⟩
abbrev cX7_reader : ByteArray := prog_9_method_30_code
def yX7_reader : MethodName := ⟨RX7, "reader", "(II)I"⟩
abbrev cX7_readMany : ByteArray := prog_9_method_31_code
def yX7_readMany : MethodName := ⟨RX7, "readMany", "(I)I"⟩
abbrev cX7_page : ByteArray := prog_9_method_32_code
def yX7_page : MethodName := ⟨RX7, "page", "(II)I"⟩
abbrev cX7_knows : ByteArray := prog_9_method_33_code
def yX7_knows : MethodName := ⟨RX7, "knows", "(III)I"⟩
abbrev cX7_reading : ByteArray := prog_9_method_34_code
def yX7_reading : MethodName := ⟨RX7, "reading", "(II)I"⟩
abbrev cX7_know : ByteArray := prog_9_method_35_code
def yX7_know : MethodName := ⟨RX7, "know", "(IIII)V"⟩
abbrev cX7_readPage : ByteArray := prog_9_method_36_code
def yX7_readPage : MethodName := ⟨RX7, "readPage", "(III)V"⟩
abbrev cX7_read : ByteArray := prog_9_method_37_code
def yX7_read : MethodName := ⟨RX7, "read", "(II)I"⟩
abbrev cX7_draw : ByteArray := prog_9_method_38_code
def yX7_draw : MethodName := ⟨RX7, "draw", "(II)I"⟩
abbrev cX7_make : ByteArray := prog_9_method_39_code
def yX7_make : MethodName := ⟨RX7, "make", "(III)I"⟩
abbrev cX7_copy : ByteArray := prog_9_method_40_code
def yX7_copy : MethodName := ⟨RX7, "copy", "(II)I"⟩
abbrev cX7_write : ByteArray := prog_9_method_41_code
def yX7_write : MethodName := ⟨RX7, "write", "(II)I"⟩
abbrev cX7_teach : ByteArray := prog_9_method_42_code
def yX7_teach : MethodName := ⟨RX7, "teach", "(III)I"⟩
abbrev cX7_darken : ByteArray := prog_9_method_43_code
def yX7_darken : MethodName := ⟨RX7, "darken", "(I)V"⟩
abbrev cX7_dusk : ByteArray := prog_9_method_44_code
def yX7_dusk : MethodName := ⟨RX7, "dusk", "(I)I"⟩
abbrev cX7_runDays : ByteArray := prog_9_method_45_code
def yX7_runDays : MethodName := ⟨RX7, "runDays", "(II)V"⟩
abbrev cX7_run : ByteArray := prog_9_method_46_code
def yX7_run : MethodName := ⟨RX7, "run", "(I)I"⟩
abbrev cX7_where : ByteArray := prog_9_method_47_code
def yX7_where : MethodName := ⟨RX7, "where", "(I)I"⟩
abbrev cX7_request : ByteArray := prog_9_method_48_code
def yX7_request : MethodName := ⟨RX7, "request", "(III)I"⟩
abbrev cX7_forget : ByteArray := prog_9_method_49_code
def yX7_forget : MethodName := ⟨RX7, "forget", "()I"⟩
abbrev cX7_palest : ByteArray := prog_9_method_50_code
def yX7_palest : MethodName := ⟨RX7, "palest", "(II)I"⟩
abbrev cX7_grantAll : ByteArray := prog_9_method_51_code
def yX7_grantAll : MethodName := ⟨RX7, "grantAll", "(II)I"⟩
abbrev cX7_grant : ByteArray := prog_9_method_52_code
def yX7_grant : MethodName := ⟨RX7, "grant", "(I)I"⟩
abbrev cX7_sumBy : ByteArray := prog_9_method_53_code
def yX7_sumBy : MethodName := ⟨RX7, "sumBy", "(II)I"⟩
abbrev cX7_best : ByteArray := prog_9_method_54_code
def yX7_best : MethodName := ⟨RX7, "best", "(II)I"⟩
abbrev cX7_isTrue : ByteArray := prog_9_method_55_code
def yX7_isTrue : MethodName := ⟨RX7, "isTrue", "(II)Z"⟩
abbrev cX7_lesser : ByteArray := prog_9_method_56_code
def yX7_lesser : MethodName := ⟨RX7, "lesser", "(IIZ)I"⟩
abbrev cX7_fewest : ByteArray := prog_9_method_57_code
def yX7_fewest : MethodName := ⟨RX7, "fewest", "(II)I"⟩
abbrev cX7_toKnow : ByteArray := prog_9_method_58_code
def yX7_toKnow : MethodName := ⟨RX7, "toKnow", "(II)I"⟩
abbrev cX7_life : ByteArray := prog_9_method_59_code
def yX7_life : MethodName := ⟨RX7, "life", "(III)I"⟩
abbrev cX7_right : ByteArray := prog_9_method_60_code
def yX7_right : MethodName := ⟨RX7, "right", "(I)I"⟩
abbrev cX7_claim : ByteArray := prog_9_method_61_code
def yX7_claim : MethodName := ⟨RX7, "claim", "(III)I"⟩
abbrev cX7_whence : ByteArray := prog_9_method_62_code
def yX7_whence : MethodName := ⟨RX7, "whence", "(II)I"⟩
abbrev cX7_span : ByteArray := prog_9_method_63_code
def yX7_span : MethodName := ⟨RX7, "span", "(III)I"⟩
abbrev cX7_note : ByteArray := prog_9_method_64_code
def yX7_note : MethodName := ⟨RX7, "note", "(I)I"⟩
abbrev cX7_tear : ByteArray := prog_9_method_65_code
def yX7_tear : MethodName := ⟨RX7, "tear", "()I"⟩
abbrev cX7_judge : ByteArray := prog_9_method_66_code
def yX7_judge : MethodName := ⟨RX7, "judge", "()I"⟩
abbrev cX7_seed : ByteArray := prog_9_method_67_code
def yX7_seed : MethodName := ⟨RX7, "seed", "(I)I"⟩
abbrev cX7_keep : ByteArray := prog_9_method_68_code
def yX7_keep : MethodName := ⟨RX7, "keep", "(I)I"⟩
abbrev cX7_goBack : ByteArray := prog_9_method_69_code
def yX7_goBack : MethodName := ⟨RX7, "goBack", "(I)I"⟩
def RJx145de : String := "java/io/Serializable"
def TJx145de : u_T := fun k => match k with
  | _ => ("", "", "", false)
def tyJx145de : Nat → FieldType := fun k => match k with
  | _ => .int
abbrev wsJx145de0 : List Cond := u_ws RJx145de TJx145de 0
theorem nmJx145de : ∀ a, a < 0 → ∀ b, b < 0 → a ≠ b → (TJx145de a).2.1 ≠ (TJx145de b).2.1 := by decide +kernel
theorem tyJx145de_ok : ∀ k, k < 0 → parseFieldDescriptor (TJx145de k).2.2.1 = some (tyJx145de k) := by decide +kernel
def RJx9f9b0 : String := "java/lang/CharSequence"
def TJx9f9b0 : u_T := fun k => match k with
  | _ => ("", "", "", false)
def tyJx9f9b0 : Nat → FieldType := fun k => match k with
  | _ => .int
abbrev wsJx9f9b00 : List Cond := u_ws RJx9f9b0 TJx9f9b0 0
theorem nmJx9f9b0 : ∀ a, a < 0 → ∀ b, b < 0 → a ≠ b → (TJx9f9b0 a).2.1 ≠ (TJx9f9b0 b).2.1 := by decide +kernel
theorem tyJx9f9b0_ok : ∀ k, k < 0 → parseFieldDescriptor (TJx9f9b0 k).2.2.1 = some (tyJx9f9b0 k) := by decide +kernel
def RJxb160c : String := "java/lang/Comparable"
def TJxb160c : u_T := fun k => match k with
  | _ => ("", "", "", false)
def tyJxb160c : Nat → FieldType := fun k => match k with
  | _ => .int
abbrev wsJxb160c0 : List Cond := u_ws RJxb160c TJxb160c 0
theorem nmJxb160c : ∀ a, a < 0 → ∀ b, b < 0 → a ≠ b → (TJxb160c a).2.1 ≠ (TJxb160c b).2.1 := by decide +kernel
theorem tyJxb160c_ok : ∀ k, k < 0 → parseFieldDescriptor (TJxb160c k).2.2.1 = some (tyJxb160c k) := by decide +kernel
def RJ6 : String := "java/lang/Integer"
def TJ6 : u_T := fun k => match k with
  | _ => ("", "", "", false)
def tyJ6 : Nat → FieldType := fun k => match k with
  | _ => .int
abbrev wsJ60 : List Cond := u_ws RJ6 TJ6 0
theorem nmJ6 : ∀ a, a < 0 → ∀ b, b < 0 → a ≠ b → (TJ6 a).2.1 ≠ (TJ6 b).2.1 := by decide +kernel
theorem tyJ6_ok : ∀ k, k < 0 → parseFieldDescriptor (TJ6 k).2.2.1 = some (tyJ6 k) := by decide +kernel
abbrev cJ6_bitCount_0f7a4 : ByteArray := prog_10_method_49_code
def yJ6_bitCount_0f7a4 : MethodName := ⟨RJ6, "bitCount", "(I)I"⟩
def RJ9 : String := "java/lang/Math"
def TJ9 : u_T := fun k => match k with
  | _ => ("", "", "", false)
def tyJ9 : Nat → FieldType := fun k => match k with
  | _ => .int
abbrev wsJ90 : List Cond := u_ws RJ9 TJ9 0
theorem nmJ9 : ∀ a, a < 0 → ∀ b, b < 0 → a ≠ b → (TJ9 a).2.1 ≠ (TJ9 b).2.1 := by decide +kernel
theorem tyJ9_ok : ∀ k, k < 0 → parseFieldDescriptor (TJ9 k).2.2.1 = some (tyJ9 k) := by decide +kernel
abbrev cJ9_max_7cf53 : ByteArray := prog_11_method_65_code
def yJ9_max_7cf53 : MethodName := ⟨RJ9, "max", "(II)I"⟩
abbrev cJ9_min_7cf53 : ByteArray := prog_11_method_69_code
def yJ9_min_7cf53 : MethodName := ⟨RJ9, "min", "(II)I"⟩
def RJ0 : String := "java/lang/String"
def TJ0 : u_T := fun k => match k with
  | _ => ("", "", "", false)
def tyJ0 : Nat → FieldType := fun k => match k with
  | _ => .int
abbrev wsJ00 : List Cond := u_ws RJ0 TJ0 0
theorem nmJ0 : ∀ a, a < 0 → ∀ b, b < 0 → a ≠ b → (TJ0 a).2.1 ≠ (TJ0 b).2.1 := by decide +kernel
theorem tyJ0_ok : ∀ k, k < 0 → parseFieldDescriptor (TJ0 k).2.2.1 = some (tyJ0 k) := by decide +kernel
abbrev cJ0_length_8abf5 : ByteArray := prog_12_method_54_code
def yJ0_length_8abf5 : MethodName := ⟨RJ0, "length", "()I"⟩
abbrev cJ0_charAt_5068e : ByteArray := prog_12_method_56_code
def yJ0_charAt_5068e : MethodName := ⟨RJ0, "charAt", "(I)C"⟩
abbrev cJ0_coder_7d493 : ByteArray := prog_12_method_152_code
def yJ0_coder_7d493 : MethodName := ⟨RJ0, "coder", "()B"⟩
abbrev cJ0_isLatin1_aae02 : ByteArray := prog_12_method_154_code
def yJ0_isLatin1_aae02 : MethodName := ⟨RJ0, "isLatin1", "()Z"⟩
abbrev cJ0_checkIndex_df160 : ByteArray := prog_12_method_155_code
def yJ0_checkIndex_df160 : MethodName := ⟨RJ0, "checkIndex", "(II)V"⟩
def RJ1 : String := "java/lang/StringLatin1"
def TJ1 : u_T := fun k => match k with
  | _ => ("", "", "", false)
def tyJ1 : Nat → FieldType := fun k => match k with
  | _ => .int
abbrev wsJ10 : List Cond := u_ws RJ1 TJ1 0
theorem nmJ1 : ∀ a, a < 0 → ∀ b, b < 0 → a ≠ b → (TJ1 a).2.1 ≠ (TJ1 b).2.1 := by decide +kernel
theorem tyJ1_ok : ∀ k, k < 0 → parseFieldDescriptor (TJ1 k).2.2.1 = some (tyJ1 k) := by decide +kernel
abbrev cJ1_charAt_3b067 : ByteArray := prog_13_method_2_code
def yJ1_charAt_3b067 : MethodName := ⟨RJ1, "charAt", "([BI)C"⟩
def RJ2 : String := "java/lang/StringUTF16"
def TJ2 : u_T := fun k => match k with
  | _ => ("", "", "", false)
def tyJ2 : Nat → FieldType := fun k => match k with
  | _ => .int
abbrev wsJ20 : List Cond := u_ws RJ2 TJ2 0
theorem nmJ2 : ∀ a, a < 0 → ∀ b, b < 0 → a ≠ b → (TJ2 a).2.1 ≠ (TJ2 b).2.1 := by decide +kernel
theorem tyJ2_ok : ∀ k, k < 0 → parseFieldDescriptor (TJ2 k).2.2.1 = some (tyJ2 k) := by decide +kernel
abbrev cJ2_getChar_3b067 : ByteArray := prog_14_method_5_code
def yJ2_getChar_3b067 : MethodName := ⟨RJ2, "getChar", "([BI)C"⟩
abbrev cJ2_length_9d52b : ByteArray := prog_14_method_6_code
def yJ2_length_9d52b : MethodName := ⟨RJ2, "length", "([B)I"⟩
abbrev cJ2_charAt_3b067 : ByteArray := prog_14_method_83_code
def yJ2_charAt_3b067 : MethodName := ⟨RJ2, "charAt", "([BI)C"⟩
abbrev cJ2_checkIndex_2214a : ByteArray := prog_14_method_91_code
def yJ2_checkIndex_2214a : MethodName := ⟨RJ2, "checkIndex", "(I[B)V"⟩
def RJ10 : String := "java/lang/System"
def TJ10 : u_T := fun k => match k with
  | _ => ("", "", "", false)
def tyJ10 : Nat → FieldType := fun k => match k with
  | _ => .int
abbrev wsJ100 : List Cond := u_ws RJ10 TJ10 0
theorem nmJ10 : ∀ a, a < 0 → ∀ b, b < 0 → a ≠ b → (TJ10 a).2.1 ≠ (TJ10 b).2.1 := by decide +kernel
theorem tyJ10_ok : ∀ k, k < 0 → parseFieldDescriptor (TJ10 k).2.2.1 = some (tyJ10 k) := by decide +kernel
def RJxfd54e : String := "java/lang/constant/Constable"
def TJxfd54e : u_T := fun k => match k with
  | _ => ("", "", "", false)
def tyJxfd54e : Nat → FieldType := fun k => match k with
  | _ => .int
abbrev wsJxfd54e0 : List Cond := u_ws RJxfd54e TJxfd54e 0
theorem nmJxfd54e : ∀ a, a < 0 → ∀ b, b < 0 → a ≠ b → (TJxfd54e a).2.1 ≠ (TJxfd54e b).2.1 := by decide +kernel
theorem tyJxfd54e_ok : ∀ k, k < 0 → parseFieldDescriptor (TJxfd54e k).2.2.1 = some (tyJxfd54e k) := by decide +kernel
def RJx3cf43 : String := "java/lang/constant/ConstantDesc"
def TJx3cf43 : u_T := fun k => match k with
  | _ => ("", "", "", false)
def tyJx3cf43 : Nat → FieldType := fun k => match k with
  | _ => .int
abbrev wsJx3cf430 : List Cond := u_ws RJx3cf43 TJx3cf43 0
theorem nmJx3cf43 : ∀ a, a < 0 → ∀ b, b < 0 → a ≠ b → (TJx3cf43 a).2.1 ≠ (TJx3cf43 b).2.1 := by decide +kernel
theorem tyJx3cf43_ok : ∀ k, k < 0 → parseFieldDescriptor (TJx3cf43 k).2.2.1 = some (tyJx3cf43 k) := by decide +kernel
def RJ7 : String := "java/util/Arrays"
def TJ7 : u_T := fun k => match k with
  | _ => ("", "", "", false)
def tyJ7 : Nat → FieldType := fun k => match k with
  | _ => .int
abbrev wsJ70 : List Cond := u_ws RJ7 TJ7 0
theorem nmJ7 : ∀ a, a < 0 → ∀ b, b < 0 → a ≠ b → (TJ7 a).2.1 ≠ (TJ7 b).2.1 := by decide +kernel
theorem tyJ7_ok : ∀ k, k < 0 → parseFieldDescriptor (TJ7 k).2.2.1 = some (tyJ7 k) := by decide +kernel
abbrev cJ7_fill_53178 : ByteArray := prog_16_method_103_code
def yJ7_fill_53178 : MethodName := ⟨RJ7, "fill", "([II)V"⟩
def RJ3 : String := "jdk/internal/util/Preconditions"
def TJ3 : u_T := fun k => match k with
  | _ => ("", "", "", false)
def tyJ3 : Nat → FieldType := fun k => match k with
  | _ => .int
abbrev wsJ30 : List Cond := u_ws RJ3 TJ3 0
theorem nmJ3 : ∀ a, a < 0 → ∀ b, b < 0 → a ≠ b → (TJ3 a).2.1 ≠ (TJ3 b).2.1 := by decide +kernel
theorem tyJ3_ok : ∀ k, k < 0 → parseFieldDescriptor (TJ3 k).2.2.1 = some (tyJ3 k) := by decide +kernel
abbrev cJ3_checkIndex_8e157 : ByteArray := prog_17_method_11_code
def yJ3_checkIndex_8e157 : MethodName := ⟨RJ3, "checkIndex", "(IILjava/util/function/BiFunction;)I"⟩
def RL : String := "DimBooksLaw"
abbrev cL_law : ByteArray := code
def yL_law : MethodName := ⟨RL, "law", "([I)Z"⟩
end
section
def wsL_law_r1 : List Cond := [Cond.classLink RL 7 RX6, Cond.instantiable RX6 12, Cond.initialized RX6, Cond.classLink RL 10 RX7, Cond.instantiable RX7 25, Cond.initialized RX7, Cond.constantLong RL 13 (4294967295), Cond.methodLink RL 9 yX6_init, Cond.instanceMethod yX6_init, Cond.code yX6_init cX6_init 2 none, Cond.methodLink RX6 1 objectInit, Cond.instanceMethod objectInit, Cond.code objectInit ⟨#[0xb1]⟩ 1 none, Cond.classLink RX6 7 RX4, Cond.instantiable RX4 5, Cond.initialized RX4, Cond.fieldLink RX6 10 "DimBooks" "script" "LDimBooks$Script;", Cond.classLink RX6 16 RX1, Cond.instantiable RX1 8, Cond.initialized RX1, Cond.fieldLink RX6 19 "DimBooks" "draft" "LDimBooks$Library;", Cond.fieldLink RX6 23 "DimBooks" "lib" "LDimBooks$Library;", Cond.classLink RX6 26 RX5, Cond.instantiable RX5 12]
def wsL_law_r2 : List Cond := [Cond.initialized RX5, Cond.fieldLink RX6 31 "DimBooks" "now" "LDimBooks$State;", Cond.fieldLink RX6 35 "DimBooks" "trial" "LDimBooks$State;", Cond.fieldLink RX6 38 "DimBooks" "images" "[LDimBooks$State;", Cond.fieldLink RX6 42 "DimBooks" "imagesKept" "I", Cond.classLink RX6 46 RX3, Cond.instantiable RX3 4, Cond.initialized RX3, Cond.fieldLink RX6 49 "DimBooks" "requests" "LDimBooks$Requests;", Cond.classLink RX6 53 RX0, Cond.instantiable RX0 3, Cond.initialized RX0, Cond.fieldLink RX6 56 "DimBooks" "choice" "LDimBooks$Choice;", Cond.arrayClass .int, Cond.fieldLink RX6 60 "DimBooks" "diary" "[I", Cond.fieldLink RX6 64 "DimBooks" "entries" "I", Cond.fieldLink RX6 67 "DimBooks" "odds" "[I", Cond.instanceMethod yX4_init, Cond.code yX4_init cX4_init 1 none, Cond.methodLink RX4 3 objectInit, Cond.fieldLink RX4 9 "DimBooks$Script" "bytes" "[I", Cond.fieldLink RX4 15 "DimBooks$Script" "length" "I", Cond.fieldLink RX4 19 "DimBooks$Script" "fault" "I", Cond.fieldLink RX4 22 "DimBooks$Script" "faultAt" "I"]
def wsL_law_r3 : List Cond := [Cond.fieldLink RX4 25 "DimBooks$Script" "at" "I", Cond.instanceMethod yX1_init, Cond.code yX1_init cX1_init 1 none, Cond.methodLink RX1 3 objectInit, Cond.fieldLink RX1 9 "DimBooks$Library" "worths" "[I", Cond.fieldLink RX1 15 "DimBooks$Library" "firstShades" "[I", Cond.fieldLink RX1 18 "DimBooks$Library" "kinds" "[I", Cond.fieldLink RX1 21 "DimBooks$Library" "terms" "[I", Cond.fieldLink RX1 24 "DimBooks$Library" "lines" "I", Cond.fieldLink RX1 28 "DimBooks$Library" "readers" "I", Cond.fieldLink RX1 31 "DimBooks$Library" "error" "I", Cond.fieldLink RX1 34 "DimBooks$Library" "errorTold" "Z", Cond.methodLink RX6 28 yX5_init, Cond.instanceMethod yX5_init, Cond.code yX5_init cX5_init 2 none, Cond.methodLink RX5 3 objectInit, Cond.classLink RX5 9 RX2, Cond.instantiable RX2 4, Cond.initialized RX2, Cond.fieldLink RX5 12 "DimBooks$State" "log" "LDimBooks$Log;", Cond.fieldLink RX5 18 "DimBooks$State" "lineOf" "[I", Cond.fieldLink RX5 22 "DimBooks$State" "variantOf" "[I", Cond.fieldLink RX5 25 "DimBooks$State" "shadeOf" "[I", Cond.fieldLink RX5 28 "DimBooks$State" "writerOf" "[I"]
def wsL_law_r4 : List Cond := [Cond.fieldLink RX5 31 "DimBooks$State" "variantHeld" "[I", Cond.fieldLink RX5 34 "DimBooks$State" "daySince" "[I", Cond.fieldLink RX5 37 "DimBooks$State" "entryShades" "[I", Cond.fieldLink RX5 40 "DimBooks$State" "pages" "I", Cond.fieldLink RX5 44 "DimBooks$State" "day" "I", Cond.fieldLink RX5 47 "DimBooks$State" "seed" "I", Cond.fieldLink RX5 50 "DimBooks$State" "lib" "LDimBooks$Library;", Cond.instanceMethod yX2_init, Cond.code yX2_init cX2_init 1 none, Cond.methodLink RX2 3 objectInit, Cond.fieldLink RX2 9 "DimBooks$Log" "days" "[I", Cond.fieldLink RX2 15 "DimBooks$Log" "pages" "[I", Cond.fieldLink RX2 18 "DimBooks$Log" "readers" "[I", Cond.fieldLink RX2 21 "DimBooks$Log" "count" "I", Cond.methodLink RX5 54 yJ7_fill_53178, Cond.static yJ7_fill_53178, Cond.initialized RJ7, Cond.code yJ7_fill_53178 cJ7_fill_53178 4 none, Cond.instanceMethod yX3_init, Cond.code yX3_init cX3_init 1 none, Cond.methodLink RX3 3 objectInit, Cond.fieldLink RX3 9 "DimBooks$Requests" "readers" "[I", Cond.fieldLink RX3 15 "DimBooks$Requests" "lines" "[I", Cond.fieldLink RX3 18 "DimBooks$Requests" "worths" "[I"]
def wsL_law_r5 : List Cond := [Cond.fieldLink RX3 21 "DimBooks$Requests" "count" "I", Cond.instanceMethod yX0_init, Cond.code yX0_init cX0_init 1 none, Cond.methodLink RX0 1 objectInit, Cond.fieldLink RX0 7 "DimBooks$Choice" "set" "I", Cond.fieldLink RX0 13 "DimBooks$Choice" "sum" "I", Cond.fieldLink RX0 16 "DimBooks$Choice" "lost" "I", Cond.methodLink RL 12 yX7_init, Cond.instanceMethod yX7_init, Cond.code yX7_init cX7_init 1 none, Cond.methodLink RX7 1 objectInit, Cond.fieldLink RX7 7 "DimBooksModel" "w" "[I", Cond.arrayClass .boolean, Cond.fieldLink RX7 13 "DimBooksModel" "isKept" "[Z", Cond.fieldLink RX7 17 "DimBooksModel" "worths" "[I", Cond.fieldLink RX7 20 "DimBooksModel" "shades" "[I", Cond.fieldLink RX7 23 "DimBooksModel" "kinds" "[I", Cond.fieldLink RX7 26 "DimBooksModel" "fades" "[I", Cond.fieldLink RX7 29 "DimBooksModel" "many" "[I", Cond.fieldLink RX7 32 "DimBooksModel" "error" "I", Cond.fieldLink RX7 36 "DimBooksModel" "text" "[I", Cond.fieldLink RX7 39 "DimBooksModel" "fault" "I", Cond.fieldLink RX7 42 "DimBooksModel" "asker" "[I", Cond.fieldLink RX7 45 "DimBooksModel" "asked" "[I"]
def wsL_law_r6 : List Cond := [Cond.fieldLink RX7 48 "DimBooksModel" "offered" "[I", Cond.fieldLink RX7 51 "DimBooksModel" "odds" "[I", Cond.fieldLink RX7 54 "DimBooksModel" "notes" "[I", Cond.methodLink RL 15 yX6_feed, Cond.instanceMethod yX6_feed, Cond.selects RX6 yX6_feed yX6_feed, Cond.code yX6_feed cX6_feed 5 (some .int), Cond.constant RX6 70 (-1000000002), Cond.fieldLink RX6 71 "DimBooks$Script" "length" "I", Cond.constant RX6 74 (-1000000004), Cond.methodLink RX6 75 yX4_append, Cond.instanceMethod yX4_append, Cond.selects RX4 yX4_append yX4_append, Cond.code yX4_append cX4_append 2 none, Cond.methodLink RL 19 yX7_feed, Cond.instanceMethod yX7_feed, Cond.selects RX7 yX7_feed yX7_feed, Cond.code yX7_feed cX7_feed 5 (some .int), Cond.constantLong RX7 57 (8), Cond.constant RX7 63 (-1000000002), Cond.fieldLink RX7 64 "DimBooksModel" "textSize" "I", Cond.constant RX7 67 (-1000000004), Cond.constantLong RX7 68 (255), Cond.methodLink RX7 59 yX7_in]
def wsL_law_r7 : List Cond := [Cond.static yX7_in, Cond.code yX7_in cX7_in 6 (some .boolean), Cond.methodLink RL 20 yX6_library, Cond.instanceMethod yX6_library, Cond.selects RX6 yX6_library yX6_library, Cond.code yX6_library cX6_library 1 (some .int), Cond.fieldLink RX6 82 "DimBooks$Script" "fault" "I", Cond.fieldLink RX6 91 "DimBooks$Requests" "count" "I", Cond.fieldLink RX6 94 "DimBooks$Library" "lines" "I", Cond.methodLink RX6 79 yX4_parseInto, Cond.instanceMethod yX4_parseInto, Cond.selects RX4 yX4_parseInto yX4_parseInto, Cond.code yX4_parseInto cX4_parseInto 3 none, Cond.methodLink RX4 28 yX1_clear, Cond.instanceMethod yX1_clear, Cond.selects RX1 yX1_clear yX1_clear, Cond.code yX1_clear cX1_clear 1 none, Cond.methodLink RX4 33 yX4_skipBlanks, Cond.instanceMethod yX4_skipBlanks, Cond.selects RX4 yX4_skipBlanks yX4_skipBlanks, Cond.code yX4_skipBlanks cX4_skipBlanks 1 none, Cond.methodLink RX4 36 yX4_parseClause, Cond.instanceMethod yX4_parseClause, Cond.selects RX4 yX4_parseClause yX4_parseClause]
def wsL_law_r8 : List Cond := [Cond.code yX4_parseClause cX4_parseClause 4 none, Cond.methodLink RX4 40 yX4_wordEnd, Cond.instanceMethod yX4_wordEnd, Cond.selects RX4 yX4_wordEnd yX4_wordEnd, Cond.code yX4_wordEnd cX4_wordEnd 2 (some .int), Cond.methodLink RX4 46 yX4_spells, Cond.instanceMethod yX4_spells, Cond.selects RX4 yX4_spells yX4_spells, Cond.code yX4_spells cX4_spells 5 (some .boolean), Cond.methodLink RX4 112 yJ0_length_8abf5, Cond.instanceMethod yJ0_length_8abf5, Cond.selects RJ0 yJ0_length_8abf5 yJ0_length_8abf5, Cond.initialized RJ0, Cond.code yJ0_length_8abf5 cJ0_length_8abf5 1 (some .int), Cond.fieldLink RJ0 9 "java/lang/String" "value" "[B", Cond.methodLink RJ0 335 yJ0_coder_7d493, Cond.instanceMethod yJ0_coder_7d493, Cond.selects RJ0 yJ0_coder_7d493 yJ0_coder_7d493, Cond.code yJ0_coder_7d493 cJ0_coder_7d493 1 (some .byte), Cond.fieldLink RJ0 38 "java/lang/String" "COMPACT_STRINGS" "Z", Cond.fieldLink RJ0 15 "java/lang/String" "coder" "B", Cond.methodLink RX4 116 yJ0_charAt_5068e, Cond.instanceMethod yJ0_charAt_5068e, Cond.selects RJ0 yJ0_charAt_5068e yJ0_charAt_5068e]
def wsL_law_r9 : List Cond := [Cond.code yJ0_charAt_5068e cJ0_charAt_5068e 2 (some .char), Cond.methodLink RJ0 492 yJ0_isLatin1_aae02, Cond.instanceMethod yJ0_isLatin1_aae02, Cond.selects RJ0 yJ0_isLatin1_aae02 yJ0_isLatin1_aae02, Cond.code yJ0_isLatin1_aae02 cJ0_isLatin1_aae02 1 (some .boolean), Cond.methodLink RJ0 495 yJ1_charAt_3b067, Cond.static yJ1_charAt_3b067, Cond.initialized RJ1, Cond.code yJ1_charAt_3b067 cJ1_charAt_3b067 2 (some .char), Cond.methodLink RJ1 9 yJ0_checkIndex_df160, Cond.static yJ0_checkIndex_df160, Cond.code yJ0_checkIndex_df160 cJ0_checkIndex_df160 2 none, Cond.fieldLink RJ0 1053 "jdk/internal/util/Preconditions" "SIOOBE_FORMATTER" "Ljava/util/function/BiFunction;", Cond.methodLink RJ0 1059 yJ3_checkIndex_8e157, Cond.static yJ3_checkIndex_8e157, Cond.initialized RJ3, Cond.code yJ3_checkIndex_8e157 cJ3_checkIndex_8e157 3 (some .int), Cond.methodLink RJ0 498 yJ2_charAt_3b067, Cond.static yJ2_charAt_3b067, Cond.initialized RJ2, Cond.code yJ2_charAt_3b067 cJ2_charAt_3b067 2 (some .char), Cond.methodLink RJ2 67 yJ2_checkIndex_2214a, Cond.static yJ2_checkIndex_2214a, Cond.code yJ2_checkIndex_2214a cJ2_checkIndex_2214a 2 none]
def wsL_law_r10 : List Cond := [Cond.methodLink RJ2 48 yJ2_length_9d52b, Cond.static yJ2_length_9d52b, Cond.code yJ2_length_9d52b cJ2_length_9d52b 1 (some .int), Cond.methodLink RJ2 414 yJ0_checkIndex_df160, Cond.methodLink RJ2 71 yJ2_getChar_3b067, Cond.static yJ2_getChar_3b067, Cond.code yJ2_getChar_3b067 cJ2_getChar_3b067 2 (some .char), Cond.fieldLink RJ2 44 "java/lang/StringUTF16" "$assertionsDisabled" "Z", Cond.fieldLink RJ2 59 "java/lang/StringUTF16" "HI_BYTE_SHIFT" "I", Cond.fieldLink RJ2 63 "java/lang/StringUTF16" "LO_BYTE_SHIFT" "I", Cond.methodLink RX4 50 yX4_parseLine, Cond.instanceMethod yX4_parseLine, Cond.selects RX4 yX4_parseLine yX4_parseLine, Cond.code yX4_parseLine cX4_parseLine 5 none, Cond.fieldLink RX4 68 "DimBooks$Library" "lines" "I", Cond.methodLink RX4 64 yX4_fail, Cond.instanceMethod yX4_fail, Cond.selects RX4 yX4_fail yX4_fail, Cond.code yX4_fail cX4_fail 3 none, Cond.methodLink RX4 71 yX4_takeNumber, Cond.instanceMethod yX4_takeNumber, Cond.selects RX4 yX4_takeNumber yX4_takeNumber, Cond.code yX4_takeNumber cX4_takeNumber 5 (some .int), Cond.methodLink RX4 108 yX4_isFigure]
def wsL_law_r11 : List Cond := [Cond.static yX4_isFigure, Cond.code yX4_isFigure cX4_isFigure 1 (some .boolean), Cond.methodLink RX4 75 yX4_takeEnd, Cond.instanceMethod yX4_takeEnd, Cond.selects RX4 yX4_takeEnd yX4_takeEnd, Cond.code yX4_takeEnd cX4_takeEnd 1 none, Cond.methodLink RX4 78 yX1_addLine, Cond.instanceMethod yX1_addLine, Cond.selects RX1 yX1_addLine yX1_addLine, Cond.code yX1_addLine cX1_addLine 3 none, Cond.methodLink RX4 56 yX4_parseReader, Cond.instanceMethod yX4_parseReader, Cond.selects RX4 yX4_parseReader yX4_parseReader, Cond.code yX4_parseReader cX4_parseReader 5 none, Cond.fieldLink RX4 81 "DimBooks$Library" "readers" "I", Cond.methodLink RX4 84 yX4_takeKind, Cond.instanceMethod yX4_takeKind, Cond.selects RX4 yX4_takeKind yX4_takeKind, Cond.code yX4_takeKind cX4_takeKind 3 (some .int), Cond.methodLink RX4 87 yX1_addReader, Cond.instanceMethod yX1_addReader, Cond.selects RX1 yX1_addReader yX1_addReader, Cond.code yX1_addReader cX1_addReader 3 none, Cond.methodLink RX4 61 yX4_parseError]
def wsL_law_r12 : List Cond := [Cond.instanceMethod yX4_parseError, Cond.selects RX4 yX4_parseError yX4_parseError, Cond.code yX4_parseError cX4_parseError 4 none, Cond.fieldLink RX4 90 "DimBooks$Library" "errorTold" "Z", Cond.methodLink RX4 94 yX1_tellError, Cond.instanceMethod yX1_tellError, Cond.selects RX1 yX1_tellError yX1_tellError, Cond.code yX1_tellError cX1_tellError 2 none, Cond.methodLink RX6 85 yX1_copyFrom, Cond.instanceMethod yX1_copyFrom, Cond.selects RX1 yX1_copyFrom yX1_copyFrom, Cond.code yX1_copyFrom cX1_copyFrom 2 none, Cond.methodLink RX1 38 arraycopyName, Cond.native arraycopyName, Cond.static arraycopyName, Cond.initialized "java/lang/System", Cond.methodLink RX6 88 yX5_open, Cond.instanceMethod yX5_open, Cond.selects RX5 yX5_open yX5_open, Cond.code yX5_open cX5_open 2 none, Cond.fieldLink RX5 60 "DimBooks$Library" "lines" "I", Cond.fieldLink RX5 65 "DimBooks$Library" "firstShades" "[I", Cond.fieldLink RX5 68 "DimBooks$Log" "count" "I", Cond.methodLink RL 24 yX7_library]
def wsL_law_r13 : List Cond := [Cond.instanceMethod yX7_library, Cond.selects RX7 yX7_library yX7_library, Cond.code yX7_library cX7_library 3 (some .int), Cond.fieldLink RX7 70 "DimBooksModel" "at" "I", Cond.fieldLink RX7 73 "DimBooksModel" "faultOf" "I", Cond.fieldLink RX7 117 "DimBooksModel" "newError" "I", Cond.fieldLink RX7 113 "DimBooksModel" "isTold" "Z", Cond.constantLong RX7 123 (160), Cond.constantLong RX7 125 (415), Cond.constantLong RX7 127 (120), Cond.constantLong RX7 129 (159), Cond.fieldLink RX7 131 "DimBooksModel" "requests" "I", Cond.fieldLink RX7 134 "DimBooksModel" "noted" "I", Cond.methodLink RX7 76 yX7_here, Cond.instanceMethod yX7_here, Cond.selects RX7 yX7_here yX7_here, Cond.code yX7_here cX7_here 1 (some .int), Cond.methodLink RX7 120 yX7_takeClause, Cond.instanceMethod yX7_takeClause, Cond.selects RX7 yX7_takeClause yX7_takeClause, Cond.code yX7_takeClause cX7_takeClause 2 none, Cond.fieldLink RX7 80 "DimBooksModel" "first" "I", Cond.methodLink RX7 103 yX7_takeWord, Cond.instanceMethod yX7_takeWord]
def wsL_law_r14 : List Cond := [Cond.selects RX7 yX7_takeWord yX7_takeWord, Cond.code yX7_takeWord cX7_takeWord 2 none, Cond.constantLong RX7 83 (97), Cond.constantLong RX7 85 (122), Cond.fieldLink RX7 87 "DimBooksModel" "length" "I", Cond.methodLink RX7 99 yX7_isWord, Cond.instanceMethod yX7_isWord, Cond.selects RX7 yX7_isWord yX7_isWord, Cond.code yX7_isWord cX7_isWord 11 (some .boolean), Cond.methodLink RX7 94 yX7_want, Cond.instanceMethod yX7_want, Cond.selects RX7 yX7_want yX7_want, Cond.code yX7_want cX7_want 4 (some .boolean), Cond.methodLink RX7 106 yX7_takeNumber, Cond.instanceMethod yX7_takeNumber, Cond.selects RX7 yX7_takeNumber yX7_takeNumber, Cond.code yX7_takeNumber cX7_takeNumber 6 (some .int), Cond.constantLong RX7 90 (48), Cond.constantLong RX7 92 (57), Cond.constant RX7 98 (99999), Cond.methodLink RX7 110 yX7_kindHere, Cond.instanceMethod yX7_kindHere, Cond.selects RX7 yX7_kindHere yX7_kindHere, Cond.code yX7_kindHere cX7_kindHere 2 (some .int)]
def wsL_law_r15 : List Cond := [Cond.methodLink RL 25 yX6_fault, Cond.instanceMethod yX6_fault, Cond.selects RX6 yX6_fault yX6_fault, Cond.code yX6_fault cX6_fault 1 (some .int), Cond.fieldLink RX6 97 "DimBooks$Script" "faultAt" "I", Cond.methodLink RL 28 yX7_fault, Cond.instanceMethod yX7_fault, Cond.selects RX7 yX7_fault yX7_fault, Cond.code yX7_fault cX7_fault 1 (some .int), Cond.methodLink RL 29 yX6_told, Cond.instanceMethod yX6_told, Cond.selects RX6 yX6_told yX6_told, Cond.code yX6_told cX6_told 2 (some .int), Cond.fieldLink RX6 100 "DimBooks$Library" "readers" "I", Cond.fieldLink RX6 103 "DimBooks$State" "pages" "I", Cond.fieldLink RX6 106 "DimBooks$State" "log" "LDimBooks$Log;", Cond.fieldLink RX6 110 "DimBooks$Log" "count" "I", Cond.fieldLink RX6 113 "DimBooks$State" "day" "I", Cond.fieldLink RX6 116 "DimBooks$Library" "error" "I", Cond.methodLink RX6 119 yX5_countKept, Cond.instanceMethod yX5_countKept, Cond.selects RX5 yX5_countKept yX5_countKept, Cond.code yX5_countKept cX5_countKept 4 (some .int), Cond.methodLink RX5 158 yX5_isKept]
def wsL_law_r16 : List Cond := [Cond.instanceMethod yX5_isKept, Cond.selects RX5 yX5_isKept yX5_isKept, Cond.code yX5_isKept cX5_isKept 5 (some .boolean), Cond.fieldLink RX5 112 "DimBooks$Library" "readers" "I", Cond.methodLink RX5 155 yX5_truePages, Cond.instanceMethod yX5_truePages, Cond.selects RX5 yX5_truePages yX5_truePages, Cond.code yX5_truePages cX5_truePages 2 (some .int), Cond.methodLink RX5 165 yX5_pagesLeftWith, Cond.instanceMethod yX5_pagesLeftWith, Cond.selects RX5 yX5_pagesLeftWith yX5_pagesLeftWith, Cond.code yX5_pagesLeftWith cX5_pagesLeftWith 5 (some .int), Cond.methodLink RX5 162 yX5_isLeft, Cond.instanceMethod yX5_isLeft, Cond.selects RX5 yX5_isLeft yX5_isLeft, Cond.code yX5_isLeft cX5_isLeft 3 (some .boolean), Cond.methodLink RX5 137 yX5_daysAhead, Cond.instanceMethod yX5_daysAhead, Cond.selects RX5 yX5_daysAhead yX5_daysAhead, Cond.code yX5_daysAhead cX5_daysAhead 2 (some .int), Cond.methodLink RX5 132 Lib.Math.min.name, Cond.static Lib.Math.min.name, Cond.initialized "java/lang/Math", Cond.code Lib.Math.min.name Lib.Math.min.code 2 (some .int)]
def wsL_law_r17 : List Cond := [Cond.methodLink RX5 95 yX5_variantAt, Cond.instanceMethod yX5_variantAt, Cond.selects RX5 yX5_variantAt yX5_variantAt, Cond.code yX5_variantAt cX5_variantAt 5 (some .int), Cond.fieldLink RX5 89 "DimBooks$Library" "terms" "[I", Cond.methodLink RX5 85 yX5_dayLearnt, Cond.instanceMethod yX5_dayLearnt, Cond.selects RX5 yX5_dayLearnt yX5_dayLearnt, Cond.code yX5_dayLearnt cX5_dayLearnt 3 (some .int), Cond.methodLink RX5 92 yX5_heart, Cond.static yX5_heart, Cond.code yX5_heart cX5_heart 2 (some .int), Cond.methodLink RL 33 yX7_told, Cond.instanceMethod yX7_told, Cond.selects RX7 yX7_told yX7_told, Cond.code yX7_told cX7_told 2 (some .int), Cond.methodLink RX7 145 yX7_keptMany, Cond.instanceMethod yX7_keptMany, Cond.selects RX7 yX7_keptMany yX7_keptMany, Cond.code yX7_keptMany cX7_keptMany 4 (some .int), Cond.methodLink RX7 137 yX7_isKeptLine, Cond.instanceMethod yX7_isKeptLine, Cond.selects RX7 yX7_isKeptLine yX7_isKeptLine, Cond.code yX7_isKeptLine cX7_isKeptLine 5 (some .boolean)]
def wsL_law_r18 : List Cond := [Cond.methodLink RX7 141 yX7_one, Cond.static yX7_one, Cond.code yX7_one cX7_one 1 (some .int), Cond.methodLink RL 34 yX6_line, Cond.instanceMethod yX6_line, Cond.selects RX6 yX6_line yX6_line, Cond.code yX6_line cX6_line 3 (some .int), Cond.constant RX6 127 (-1000000001), Cond.fieldLink RX6 128 "DimBooks$Library" "worths" "[I", Cond.fieldLink RX6 144 "DimBooks$State" "entryShades" "[I", Cond.methodLink RX6 123 yX1_hasLine, Cond.instanceMethod yX1_hasLine, Cond.selects RX1 yX1_hasLine yX1_hasLine, Cond.code yX1_hasLine cX1_hasLine 2 (some .boolean), Cond.methodLink RX6 131 yX5_isKept, Cond.methodLink RX6 135 yX5_pagesLeft, Cond.instanceMethod yX5_pagesLeft, Cond.selects RX5 yX5_pagesLeft yX5_pagesLeft, Cond.code yX5_pagesLeft cX5_pagesLeft 4 (some .int), Cond.methodLink RX6 138 yX5_knowers, Cond.instanceMethod yX5_knowers, Cond.selects RX5 yX5_knowers yX5_knowers, Cond.code yX5_knowers cX5_knowers 4 (some .int), Cond.methodLink RX5 168 yX5_knowsAny]
def wsL_law_r19 : List Cond := [Cond.instanceMethod yX5_knowsAny, Cond.selects RX5 yX5_knowsAny yX5_knowsAny, Cond.code yX5_knowsAny cX5_knowsAny 3 (some .boolean), Cond.methodLink RX5 99 yX5_variantKnown, Cond.instanceMethod yX5_variantKnown, Cond.selects RX5 yX5_variantKnown yX5_variantKnown, Cond.code yX5_variantKnown cX5_variantKnown 3 (some .int), Cond.methodLink RX6 141 yX5_voteOn, Cond.instanceMethod yX5_voteOn, Cond.selects RX5 yX5_voteOn yX5_voteOn, Cond.code yX5_voteOn cX5_voteOn 5 (some .int), Cond.methodLink RX5 174 yX5_pagesLeft, Cond.methodLink RX5 177 yX5_knowers, Cond.methodLink RX5 180 yJ6_bitCount_0f7a4, Cond.static yJ6_bitCount_0f7a4, Cond.initialized RJ6, Cond.code yJ6_bitCount_0f7a4 cJ6_bitCount_0f7a4 1 (some .int), Cond.constant RJ6 265 (1431655765), Cond.constant RJ6 266 (858993459), Cond.constant RJ6 267 (252645135), Cond.methodLink RX5 171 yX5_knowersOf, Cond.instanceMethod yX5_knowersOf, Cond.selects RX5 yX5_knowersOf yX5_knowersOf, Cond.code yX5_knowersOf cX5_knowersOf 5 (some .int)]
def wsL_law_r20 : List Cond := [Cond.methodLink RL 38 yX7_line, Cond.instanceMethod yX7_line, Cond.selects RX7 yX7_line yX7_line, Cond.code yX7_line cX7_line 3 (some .int), Cond.constant RX7 165 (-1000000001), Cond.methodLink RX7 161 yX7_isLine, Cond.instanceMethod yX7_isLine, Cond.selects RX7 yX7_isLine yX7_isLine, Cond.code yX7_isLine cX7_isLine 2 (some .boolean), Cond.methodLink RX7 149 yX7_pagesOf, Cond.instanceMethod yX7_pagesOf, Cond.selects RX7 yX7_pagesOf yX7_pagesOf, Cond.code yX7_pagesOf cX7_pagesOf 4 (some .int), Cond.methodLink RX7 152 yX7_knowers, Cond.instanceMethod yX7_knowers, Cond.selects RX7 yX7_knowers yX7_knowers, Cond.code yX7_knowers cX7_knowers 4 (some .int), Cond.methodLink RX7 166 yX7_vote, Cond.instanceMethod yX7_vote, Cond.selects RX7 yX7_vote yX7_vote, Cond.code yX7_vote cX7_vote 5 (some .int), Cond.methodLink RX7 155 yX7_ones, Cond.static yX7_ones, Cond.code yX7_ones cX7_ones 3 (some .int)]
def wsL_law_r21 : List Cond := [Cond.methodLink RX7 158 yX7_votesFor, Cond.instanceMethod yX7_votesFor, Cond.selects RX7 yX7_votesFor yX7_votesFor, Cond.code yX7_votesFor cX7_votesFor 5 (some .int), Cond.methodLink RL 39 yX6_reader, Cond.instanceMethod yX6_reader, Cond.selects RX6 yX6_reader yX6_reader, Cond.code yX6_reader cX6_reader 3 (some .int), Cond.fieldLink RX6 150 "DimBooks$Library" "kinds" "[I", Cond.fieldLink RX6 153 "DimBooks$Library" "terms" "[I", Cond.methodLink RX6 147 yX1_hasReader, Cond.instanceMethod yX1_hasReader, Cond.selects RX1 yX1_hasReader yX1_hasReader, Cond.code yX1_hasReader cX1_hasReader 2 (some .boolean), Cond.methodLink RX6 156 yX5_linesKnown, Cond.instanceMethod yX5_linesKnown, Cond.selects RX5 yX5_linesKnown yX5_linesKnown, Cond.code yX5_linesKnown cX5_linesKnown 4 (some .int), Cond.methodLink RL 42 yX7_reader, Cond.instanceMethod yX7_reader, Cond.selects RX7 yX7_reader yX7_reader, Cond.code yX7_reader cX7_reader 3 (some .int), Cond.methodLink RX7 169 yX7_isReader, Cond.instanceMethod yX7_isReader]
def wsL_law_r22 : List Cond := [Cond.selects RX7 yX7_isReader yX7_isReader, Cond.code yX7_isReader cX7_isReader 2 (some .boolean), Cond.methodLink RX7 172 yX7_knownBy, Cond.instanceMethod yX7_knownBy, Cond.selects RX7 yX7_knownBy yX7_knownBy, Cond.code yX7_knownBy cX7_knownBy 4 (some .int), Cond.methodLink RL 43 yX6_page, Cond.instanceMethod yX6_page, Cond.selects RX6 yX6_page yX6_page, Cond.code yX6_page cX6_page 3 (some .int), Cond.fieldLink RX6 162 "DimBooks$State" "lineOf" "[I", Cond.fieldLink RX6 165 "DimBooks$State" "variantOf" "[I", Cond.fieldLink RX6 168 "DimBooks$State" "shadeOf" "[I", Cond.methodLink RX6 159 yX5_hasPage, Cond.instanceMethod yX5_hasPage, Cond.selects RX5 yX5_hasPage yX5_hasPage, Cond.code yX5_hasPage cX5_hasPage 2 (some .boolean), Cond.methodLink RX6 171 yX2_timesRead, Cond.instanceMethod yX2_timesRead, Cond.selects RX2 yX2_timesRead yX2_timesRead, Cond.code yX2_timesRead cX2_timesRead 4 (some .int), Cond.methodLink RL 46 yX7_page, Cond.instanceMethod yX7_page, Cond.selects RX7 yX7_page yX7_page]
def wsL_law_r23 : List Cond := [Cond.code yX7_page cX7_page 3 (some .int), Cond.methodLink RX7 175 yX7_isPage, Cond.instanceMethod yX7_isPage, Cond.selects RX7 yX7_isPage yX7_isPage, Cond.code yX7_isPage cX7_isPage 2 (some .boolean), Cond.methodLink RX7 178 yX7_readMany, Cond.instanceMethod yX7_readMany, Cond.selects RX7 yX7_readMany yX7_readMany, Cond.code yX7_readMany cX7_readMany 4 (some .int), Cond.methodLink RL 47 yX6_knows, Cond.instanceMethod yX6_knows, Cond.selects RX6 yX6_knows yX6_knows, Cond.code yX6_knows cX6_knows 4 (some .int), Cond.methodLink RX6 174 yX5_knowsAny, Cond.methodLink RX6 177 yX5_variantKnown, Cond.methodLink RX6 181 yX5_dayLearnt, Cond.methodLink RL 51 yX7_knows, Cond.instanceMethod yX7_knows, Cond.selects RX7 yX7_knows yX7_knows, Cond.code yX7_knows cX7_knows 4 (some .int), Cond.methodLink RL 52 yX6_reading, Cond.instanceMethod yX6_reading, Cond.selects RX6 yX6_reading yX6_reading, Cond.code yX6_reading cX6_reading 3 (some .int)]
def wsL_law_r24 : List Cond := [Cond.fieldLink RX6 184 "DimBooks$Log" "days" "[I", Cond.fieldLink RX6 187 "DimBooks$Log" "pages" "[I", Cond.fieldLink RX6 189 "DimBooks$Log" "readers" "[I", Cond.methodLink RL 55 yX7_reading, Cond.instanceMethod yX7_reading, Cond.selects RX7 yX7_reading yX7_reading, Cond.code yX7_reading cX7_reading 3 (some .int), Cond.constantLong RX7 181 (2), Cond.methodLink RL 56 yX6_read, Cond.instanceMethod yX6_read, Cond.selects RX6 yX6_read yX6_read, Cond.code yX6_read cX6_read 3 (some .int), Cond.constant RX6 194 (-1000000003), Cond.methodLink RX6 191 yX5_isGone, Cond.instanceMethod yX5_isGone, Cond.selects RX5 yX5_isGone yX5_isGone, Cond.code yX5_isGone cX5_isGone 2 (some .boolean), Cond.methodLink RX6 195 yX5_readPage, Cond.instanceMethod yX5_readPage, Cond.selects RX5 yX5_readPage yX5_readPage, Cond.code yX5_readPage cX5_readPage 4 none, Cond.fieldLink RX5 106 "DimBooks$Library" "kinds" "[I", Cond.methodLink RX5 102 yX2_add, Cond.instanceMethod yX2_add]
def wsL_law_r25 : List Cond := [Cond.selects RX2 yX2_add yX2_add, Cond.code yX2_add cX2_add 4 none, Cond.methodLink RX5 109 yX5_learn, Cond.instanceMethod yX5_learn, Cond.selects RX5 yX5_learn yX5_learn, Cond.code yX5_learn cX5_learn 4 none, Cond.methodLink RL 59 yX7_read, Cond.instanceMethod yX7_read, Cond.selects RX7 yX7_read yX7_read, Cond.code yX7_read cX7_read 3 (some .int), Cond.constant RX7 187 (-1000000003), Cond.methodLink RX7 188 yX7_readPage, Cond.instanceMethod yX7_readPage, Cond.selects RX7 yX7_readPage yX7_readPage, Cond.code yX7_readPage cX7_readPage 5 none, Cond.methodLink RX7 183 yX7_know, Cond.instanceMethod yX7_know, Cond.selects RX7 yX7_know yX7_know, Cond.code yX7_know cX7_know 5 none, Cond.methodLink RL 60 yX6_copy, Cond.instanceMethod yX6_copy, Cond.selects RX6 yX6_copy yX6_copy, Cond.code yX6_copy cX6_copy 3 (some .int), Cond.methodLink RX6 199 yX5_isFull]
def wsL_law_r26 : List Cond := [Cond.instanceMethod yX5_isFull, Cond.selects RX5 yX5_isFull yX5_isFull, Cond.code yX5_isFull cX5_isFull 1 (some .boolean), Cond.methodLink RX6 203 yX5_addPage, Cond.instanceMethod yX5_addPage, Cond.selects RX5 yX5_addPage yX5_addPage, Cond.code yX5_addPage cX5_addPage 5 (some .int), Cond.constant RX5 119 (-1000000004), Cond.fieldLink RX5 124 "DimBooks$Library" "error" "I", Cond.methodLink RX5 115 yX5_isFull, Cond.methodLink RX5 120 yX5_draw, Cond.instanceMethod yX5_draw, Cond.selects RX5 yX5_draw yX5_draw, Cond.code yX5_draw cX5_draw 2 (some .int), Cond.constant RX5 127 (1103515245), Cond.constant RX5 130 (2147483647), Cond.constant RX5 131 (65536), Cond.methodLink RL 63 yX7_copy, Cond.instanceMethod yX7_copy, Cond.selects RX7 yX7_copy yX7_copy, Cond.code yX7_copy cX7_copy 3 (some .int), Cond.methodLink RX7 202 yX7_make, Cond.instanceMethod yX7_make, Cond.selects RX7 yX7_make yX7_make]
def wsL_law_r27 : List Cond := [Cond.code yX7_make cX7_make 5 (some .int), Cond.methodLink RX7 199 yX7_draw, Cond.instanceMethod yX7_draw, Cond.selects RX7 yX7_draw yX7_draw, Cond.code yX7_draw cX7_draw 3 (some .int), Cond.constantLong RX7 192 (1103515245), Cond.constantLong RX7 194 (12345), Cond.constantLong RX7 196 (2147483648), Cond.constant RX7 198 (65536), Cond.methodLink RL 64 yX6_write, Cond.instanceMethod yX6_write, Cond.selects RX6 yX6_write yX6_write, Cond.code yX6_write cX6_write 3 (some .int), Cond.methodLink RL 67 yX7_write, Cond.instanceMethod yX7_write, Cond.selects RX7 yX7_write yX7_write, Cond.code yX7_write cX7_write 4 (some .int), Cond.methodLink RL 68 yX6_teach, Cond.instanceMethod yX6_teach, Cond.selects RX6 yX6_teach yX6_teach, Cond.code yX6_teach cX6_teach 5 (some .int), Cond.methodLink RX6 207 yX5_learn, Cond.methodLink RL 71 yX7_teach, Cond.instanceMethod yX7_teach]
def wsL_law_r28 : List Cond := [Cond.selects RX7 yX7_teach yX7_teach, Cond.code yX7_teach cX7_teach 5 (some .int), Cond.methodLink RL 72 yX6_dusk, Cond.instanceMethod yX6_dusk, Cond.selects RX6 yX6_dusk yX6_dusk, Cond.code yX6_dusk cX6_dusk 2 (some .int), Cond.methodLink RX6 211 yX5_passDusks, Cond.instanceMethod yX5_passDusks, Cond.selects RX5 yX5_passDusks yX5_passDusks, Cond.code yX5_passDusks cX5_passDusks 2 none, Cond.methodLink RL 75 yX7_dusk, Cond.instanceMethod yX7_dusk, Cond.selects RX7 yX7_dusk yX7_dusk, Cond.code yX7_dusk cX7_dusk 3 (some .int), Cond.constantLong RX7 206 (200), Cond.methodLink RX7 208 yX7_darken, Cond.instanceMethod yX7_darken, Cond.selects RX7 yX7_darken yX7_darken, Cond.code yX7_darken cX7_darken 5 none, Cond.methodLink RL 76 yX6_run, Cond.instanceMethod yX6_run, Cond.selects RX6 yX6_run yX6_run, Cond.code yX6_run cX6_run 2 (some .int), Cond.methodLink RX6 214 yX5_liveByDraws]
def wsL_law_r29 : List Cond := [Cond.instanceMethod yX5_liveByDraws, Cond.selects RX5 yX5_liveByDraws yX5_liveByDraws, Cond.code yX5_liveByDraws cX5_liveByDraws 6 none, Cond.methodLink RX5 140 yX5_hasPage, Cond.methodLink RX5 144 yX5_isGone, Cond.methodLink RX5 147 yX5_readPage, Cond.methodLink RX5 151 yX5_passDusks, Cond.methodLink RX6 217 yX5_countGone, Cond.instanceMethod yX5_countGone, Cond.selects RX5 yX5_countGone yX5_countGone, Cond.code yX5_countGone cX5_countGone 3 (some .int), Cond.methodLink RL 79 yX7_run, Cond.instanceMethod yX7_run, Cond.selects RX7 yX7_run yX7_run, Cond.code yX7_run cX7_run 4 (some .int), Cond.constantLong RX7 212 (100), Cond.methodLink RX7 214 yX7_runDays, Cond.instanceMethod yX7_runDays, Cond.selects RX7 yX7_runDays yX7_runDays, Cond.code yX7_runDays cX7_runDays 6 none, Cond.methodLink RL 80 yX6_where, Cond.instanceMethod yX6_where, Cond.selects RX6 yX6_where yX6_where, Cond.code yX6_where cX6_where 2 (some .int)]
def wsL_law_r30 : List Cond := [Cond.methodLink RX6 221 yX5_firstPage, Cond.instanceMethod yX5_firstPage, Cond.selects RX5 yX5_firstPage yX5_firstPage, Cond.code yX5_firstPage cX5_firstPage 3 (some .int), Cond.methodLink RL 83 yX7_where, Cond.instanceMethod yX7_where, Cond.selects RX7 yX7_where yX7_where, Cond.code yX7_where cX7_where 3 (some .int), Cond.methodLink RL 84 yX6_request, Cond.instanceMethod yX6_request, Cond.selects RX6 yX6_request yX6_request, Cond.code yX6_request cX6_request 4 (some .int), Cond.methodLink RX6 224 yX3_add, Cond.instanceMethod yX3_add, Cond.selects RX3 yX3_add yX3_add, Cond.code yX3_add cX3_add 4 (some .int), Cond.constant RX3 25 (-1000000004), Cond.methodLink RL 87 yX7_request, Cond.instanceMethod yX7_request, Cond.selects RX7 yX7_request yX7_request, Cond.code yX7_request cX7_request 4 (some .int), Cond.constantLong RX7 218 (99), Cond.methodLink RL 88 yX6_forget, Cond.instanceMethod yX6_forget]
def wsL_law_r31 : List Cond := [Cond.selects RX6 yX6_forget yX6_forget, Cond.code yX6_forget cX6_forget 2 (some .int), Cond.methodLink RL 91 yX7_forget, Cond.instanceMethod yX7_forget, Cond.selects RX7 yX7_forget yX7_forget, Cond.code yX7_forget cX7_forget 2 (some .int), Cond.methodLink RL 92 yX6_grant, Cond.instanceMethod yX6_grant, Cond.selects RX6 yX6_grant yX6_grant, Cond.code yX6_grant cX6_grant 2 (some .int), Cond.methodLink RX6 227 yX6_isSetOf, Cond.static yX6_isSetOf, Cond.code yX6_isSetOf cX6_isSetOf 2 (some .boolean), Cond.methodLink RX6 230 yX3_fulfil, Cond.instanceMethod yX3_fulfil, Cond.selects RX3 yX3_fulfil yX3_fulfil, Cond.code yX3_fulfil cX3_fulfil 6 (some .int), Cond.static yX6_has, Cond.code yX6_has cX6_has 2 (some .boolean), Cond.methodLink RX3 30 yX5_darkestPage, Cond.instanceMethod yX5_darkestPage, Cond.selects RX5 yX5_darkestPage yX5_darkestPage, Cond.code yX5_darkestPage cX5_darkestPage 4 (some .int), Cond.methodLink RX3 36 yX5_readPage]
def wsL_law_r32 : List Cond := [Cond.methodLink RL 95 yX7_grant, Cond.instanceMethod yX7_grant, Cond.selects RX7 yX7_grant yX7_grant, Cond.code yX7_grant cX7_grant 2 (some .int), Cond.methodLink RX7 226 yX7_grantAll, Cond.instanceMethod yX7_grantAll, Cond.selects RX7 yX7_grantAll yX7_grantAll, Cond.code yX7_grantAll cX7_grantAll 6 (some .int), Cond.methodLink RX7 220 yX7_has, Cond.static yX7_has, Cond.code yX7_has cX7_has 2 (some .boolean), Cond.methodLink RX7 223 yX7_palest, Cond.instanceMethod yX7_palest, Cond.selects RX7 yX7_palest yX7_palest, Cond.code yX7_palest cX7_palest 5 (some .int), Cond.methodLink RL 96 yX6_best, Cond.instanceMethod yX6_best, Cond.selects RX6 yX6_best yX6_best, Cond.code yX6_best cX6_best 4 (some .int), Cond.fieldLink RX6 240 "DimBooks$Choice" "set" "I", Cond.fieldLink RX6 243 "DimBooks$Choice" "sum" "I", Cond.fieldLink RX6 246 "DimBooks$Choice" "lost" "I", Cond.methodLink RX6 234 yX0_clear, Cond.instanceMethod yX0_clear]
def wsL_law_r33 : List Cond := [Cond.selects RX0 yX0_clear yX0_clear, Cond.code yX0_clear cX0_clear 1 none, Cond.methodLink RX6 237 yX6_chooseFor, Cond.instanceMethod yX6_chooseFor, Cond.selects RX6 yX6_chooseFor yX6_chooseFor, Cond.code yX6_chooseFor cX6_chooseFor 10 none, Cond.methodLink RX6 249 yX3_forLine, Cond.instanceMethod yX3_forLine, Cond.selects RX3 yX3_forLine yX3_forLine, Cond.code yX3_forLine cX3_forLine 4 (some .int), Cond.methodLink RX6 252 yX5_copyBooks, Cond.instanceMethod yX5_copyBooks, Cond.selects RX5 yX5_copyBooks yX5_copyBooks, Cond.code yX5_copyBooks cX5_copyBooks 2 none, Cond.methodLink RX5 75 arraycopyName, Cond.methodLink RX6 256 yJ6_bitCount_0f7a4, Cond.methodLink RX6 261 yX0_addLine, Cond.instanceMethod yX0_addLine, Cond.selects RX0 yX0_addLine yX0_addLine, Cond.code yX0_addLine cX0_addLine 5 none, Cond.methodLink RL 99 yX7_best, Cond.instanceMethod yX7_best, Cond.selects RX7 yX7_best yX7_best, Cond.code yX7_best cX7_best 8 (some .int)]
def wsL_law_r34 : List Cond := [Cond.fieldLink RX7 232 "DimBooksModel" "lostBy" "I", Cond.methodLink RX7 235 yX7_sumBy, Cond.instanceMethod yX7_sumBy, Cond.selects RX7 yX7_sumBy yX7_sumBy, Cond.code yX7_sumBy cX7_sumBy 6 (some .int), Cond.methodLink RX7 229 yX7_copyRow, Cond.instanceMethod yX7_copyRow, Cond.selects RX7 yX7_copyRow yX7_copyRow, Cond.code yX7_copyRow cX7_copyRow 4 none, Cond.methodLink RL 100 yX6_toKnow, Cond.instanceMethod yX6_toKnow, Cond.selects RX6 yX6_toKnow yX6_toKnow, Cond.code yX6_toKnow cX6_toKnow 6 (some .int), Cond.methodLink RX6 265 yX6_has, Cond.methodLink RX6 268 yX6_fewestToKnow, Cond.instanceMethod yX6_fewestToKnow, Cond.selects RX6 yX6_fewestToKnow yX6_fewestToKnow, Cond.code yX6_fewestToKnow cX6_fewestToKnow 7 (some .int), Cond.methodLink RX6 271 yX5_trueKnowers, Cond.instanceMethod yX5_trueKnowers, Cond.selects RX5 yX5_trueKnowers yX5_trueKnowers, Cond.code yX5_trueKnowers cX5_trueKnowers 2 (some .int), Cond.methodLink RX6 274 yX5_truePages, Cond.methodLink RX6 277 yX1_readersOfKind]
def wsL_law_r35 : List Cond := [Cond.instanceMethod yX1_readersOfKind, Cond.selects RX1 yX1_readersOfKind yX1_readersOfKind, Cond.code yX1_readersOfKind cX1_readersOfKind 4 (some .int), Cond.methodLink RX6 280 yX6_pagesAllow, Cond.instanceMethod yX6_pagesAllow, Cond.selects RX6 yX6_pagesAllow yX6_pagesAllow, Cond.code yX6_pagesAllow cX6_pagesAllow 4 (some .boolean), Cond.methodLink RX6 283 yX5_trueReadingsLeft, Cond.instanceMethod yX5_trueReadingsLeft, Cond.selects RX5 yX5_trueReadingsLeft yX5_trueReadingsLeft, Cond.code yX5_trueReadingsLeft cX5_trueReadingsLeft 4 (some .int), Cond.methodLink RL 103 yX7_toKnow, Cond.instanceMethod yX7_toKnow, Cond.selects RX7 yX7_toKnow yX7_toKnow, Cond.code yX7_toKnow cX7_toKnow 6 (some .int), Cond.methodLink RX7 245 yX7_fewest, Cond.instanceMethod yX7_fewest, Cond.selects RX7 yX7_fewest yX7_fewest, Cond.code yX7_fewest cX7_fewest 11 (some .int), Cond.methodLink RX7 238 yX7_isTrue, Cond.instanceMethod yX7_isTrue, Cond.selects RX7 yX7_isTrue yX7_isTrue, Cond.code yX7_isTrue cX7_isTrue 3 (some .boolean), Cond.methodLink RX7 241 yX7_lesser]
def wsL_law_r36 : List Cond := [Cond.static yX7_lesser, Cond.code yX7_lesser cX7_lesser 3 (some .int), Cond.methodLink RL 104 yX6_life, Cond.instanceMethod yX6_life, Cond.selects RX6 yX6_life yX6_life, Cond.code yX6_life cX6_life 7 (some .int), Cond.constant RX6 292 (1000000000), Cond.methodLink RX6 286 yJ7_fill_53178, Cond.methodLink RL 107 yX7_life, Cond.instanceMethod yX7_life, Cond.selects RX7 yX7_life yX7_life, Cond.code yX7_life cX7_life 7 (some .int), Cond.constantLong RX7 248 (9), Cond.constant RX7 250 (1000000000), Cond.methodLink RL 108 yX6_right, Cond.instanceMethod yX6_right, Cond.selects RX6 yX6_right yX6_right, Cond.code yX6_right cX6_right 5 (some .int), Cond.constant RX6 293 (1000000), Cond.methodLink RL 111 yX7_right, Cond.instanceMethod yX7_right, Cond.selects RX7 yX7_right yX7_right, Cond.code yX7_right cX7_right 5 (some .int), Cond.constantLong RX7 251 (40)]
def wsL_law_r37 : List Cond := [Cond.constant RX7 253 (1000000), Cond.methodLink RL 112 yX6_claim, Cond.instanceMethod yX6_claim, Cond.selects RX6 yX6_claim yX6_claim, Cond.code yX6_claim cX6_claim 4 (some .int), Cond.methodLink RX6 294 yX5_canBeCopied, Cond.instanceMethod yX5_canBeCopied, Cond.selects RX5 yX5_canBeCopied yX5_canBeCopied, Cond.code yX5_canBeCopied cX5_canBeCopied 7 (some .boolean), Cond.fieldLink RX5 183 "DimBooks$Log" "pages" "[I", Cond.fieldLink RX5 185 "DimBooks$Log" "days" "[I", Cond.fieldLink RX5 188 "DimBooks$Log" "readers" "[I", Cond.methodLink RL 115 yX7_claim, Cond.instanceMethod yX7_claim, Cond.selects RX7 yX7_claim yX7_claim, Cond.code yX7_claim cX7_claim 9 (some .int), Cond.constantLong RX7 254 (9999), Cond.methodLink RL 116 yX6_whence, Cond.instanceMethod yX6_whence, Cond.selects RX6 yX6_whence yX6_whence, Cond.code yX6_whence cX6_whence 3 (some .int), Cond.methodLink RX6 298 yX5_firstWriter, Cond.instanceMethod yX5_firstWriter, Cond.selects RX5 yX5_firstWriter yX5_firstWriter]
def wsL_law_r38 : List Cond := [Cond.code yX5_firstWriter cX5_firstWriter 4 (some .int), Cond.methodLink RL 119 yX7_whence, Cond.instanceMethod yX7_whence, Cond.selects RX7 yX7_whence yX7_whence, Cond.code yX7_whence cX7_whence 4 (some .int), Cond.methodLink RL 120 yX6_span, Cond.instanceMethod yX6_span, Cond.selects RX6 yX6_span yX6_span, Cond.code yX6_span cX6_span 9 (some .int), Cond.fieldLink RX6 301 "DimBooks$State" "seed" "I", Cond.methodLink RX6 304 Lib.Math.min.name, Cond.methodLink RX6 309 Lib.Math.max.name, Cond.static Lib.Math.max.name, Cond.code Lib.Math.max.name Lib.Math.max.code 2 (some .int), Cond.methodLink RL 123 yX7_span, Cond.instanceMethod yX7_span, Cond.selects RX7 yX7_span yX7_span, Cond.code yX7_span cX7_span 9 (some .int), Cond.constantLong RX7 256 (20), Cond.methodLink RL 124 yX6_note, Cond.instanceMethod yX6_note, Cond.selects RX6 yX6_note yX6_note, Cond.code yX6_note cX6_note 2 (some .int), Cond.methodLink RL 127 yX7_note]
def wsL_law_r39 : List Cond := [Cond.instanceMethod yX7_note, Cond.selects RX7 yX7_note yX7_note, Cond.code yX7_note cX7_note 2 (some .int), Cond.constantLong RX7 258 (16), Cond.methodLink RL 128 yX6_tear, Cond.instanceMethod yX6_tear, Cond.selects RX6 yX6_tear yX6_tear, Cond.code yX6_tear cX6_tear 2 (some .int), Cond.methodLink RL 131 yX7_tear, Cond.instanceMethod yX7_tear, Cond.selects RX7 yX7_tear yX7_tear, Cond.code yX7_tear cX7_tear 2 (some .int), Cond.methodLink RL 132 yX6_judge, Cond.instanceMethod yX6_judge, Cond.selects RX6 yX6_judge yX6_judge, Cond.code yX6_judge cX6_judge 2 (some .int), Cond.methodLink RL 135 yX7_judge, Cond.instanceMethod yX7_judge, Cond.selects RX7 yX7_judge yX7_judge, Cond.code yX7_judge cX7_judge 2 (some .int), Cond.methodLink RL 136 yX6_seed, Cond.instanceMethod yX6_seed, Cond.selects RX6 yX6_seed yX6_seed, Cond.code yX6_seed cX6_seed 3 (some .int)]
def wsL_law_r40 : List Cond := [Cond.methodLink RL 139 yX7_seed, Cond.instanceMethod yX7_seed, Cond.selects RX7 yX7_seed yX7_seed, Cond.code yX7_seed cX7_seed 3 (some .int), Cond.methodLink RL 140 yX6_keep, Cond.instanceMethod yX6_keep, Cond.selects RX6 yX6_keep yX6_keep, Cond.code yX6_keep cX6_keep 2 (some .int), Cond.methodLink RX6 312 yX5_copyFrom, Cond.instanceMethod yX5_copyFrom, Cond.selects RX5 yX5_copyFrom yX5_copyFrom, Cond.code yX5_copyFrom cX5_copyFrom 2 none, Cond.methodLink RX5 71 yX5_copyBooks, Cond.methodLink RX5 81 yX2_copyFrom, Cond.instanceMethod yX2_copyFrom, Cond.selects RX2 yX2_copyFrom yX2_copyFrom, Cond.code yX2_copyFrom cX2_copyFrom 2 none, Cond.methodLink RX2 25 arraycopyName, Cond.methodLink RL 143 yX7_keep, Cond.instanceMethod yX7_keep, Cond.selects RX7 yX7_keep yX7_keep, Cond.code yX7_keep cX7_keep 2 (some .int), Cond.methodLink RL 144 yX6_goBack, Cond.instanceMethod yX6_goBack]
def wsL_law_r41 : List Cond := [Cond.selects RX6 yX6_goBack yX6_goBack, Cond.code yX6_goBack cX6_goBack 2 (some .int), Cond.methodLink RL 147 yX7_goBack, Cond.instanceMethod yX7_goBack, Cond.selects RX7 yX7_goBack yX7_goBack, Cond.code yX7_goBack cX7_goBack 2 (some .int)]
def wsL_law : List Cond := (wsL_law_r1 ++ (wsL_law_r2 ++ (wsL_law_r3 ++ (wsL_law_r4 ++ (wsL_law_r5 ++ (wsL_law_r6 ++ (wsL_law_r7 ++ (wsL_law_r8 ++ (wsL_law_r9 ++ (wsL_law_r10 ++ (wsL_law_r11 ++ (wsL_law_r12 ++ (wsL_law_r13 ++ (wsL_law_r14 ++ (wsL_law_r15 ++ (wsL_law_r16 ++ (wsL_law_r17 ++ (wsL_law_r18 ++ (wsL_law_r19 ++ (wsL_law_r20 ++ (wsL_law_r21 ++ (wsL_law_r22 ++ (wsL_law_r23 ++ (wsL_law_r24 ++ (wsL_law_r25 ++ (wsL_law_r26 ++ (wsL_law_r27 ++ (wsL_law_r28 ++ (wsL_law_r29 ++ (wsL_law_r30 ++ (wsL_law_r31 ++ (wsL_law_r32 ++ (wsL_law_r33 ++ (wsL_law_r34 ++ (wsL_law_r35 ++ (wsL_law_r36 ++ (wsL_law_r37 ++ (wsL_law_r38 ++ (wsL_law_r39 ++ (wsL_law_r40 ++ wsL_law_r41)))))))))))))))))))))))))))))))))))))))) ++ wsX60 ++ wsX70 ++ wsX40 ++ wsX10 ++ wsX50 ++ wsX30 ++ wsX00 ++ wsX20 ++ ([] : List Cond)
set_option maxRecDepth 20000 in
theorem wsL_all : wsL_law.all goodWord = true := by decide +kernel
theorem wsL_self : GoodIn wsL_law wsL_law := fun w hw => ⟨hw, good_of_word (List.all_eq_true.mp wsL_all w hw)⟩
theorem inlX0 : ∀ w ∈ wsX00, w ∈ wsL_law := fun _ h => List.mem_append_left _ (List.mem_append_left _ (List.mem_append_right _ h))
theorem inlX1 : ∀ w ∈ wsX10, w ∈ wsL_law := fun _ h => List.mem_append_left _ (List.mem_append_left _ (List.mem_append_left _ (List.mem_append_left _ (List.mem_append_left _ (List.mem_append_right _ h)))))
theorem inlX2 : ∀ w ∈ wsX20, w ∈ wsL_law := fun _ h => List.mem_append_left _ (List.mem_append_right _ h)
theorem inlX3 : ∀ w ∈ wsX30, w ∈ wsL_law := fun _ h => List.mem_append_left _ (List.mem_append_left _ (List.mem_append_left _ (List.mem_append_right _ h)))
theorem inlX4 : ∀ w ∈ wsX40, w ∈ wsL_law := fun _ h => List.mem_append_left _ (List.mem_append_left _ (List.mem_append_left _ (List.mem_append_left _ (List.mem_append_left _ (List.mem_append_left _ (List.mem_append_right _ h))))))
theorem inlX5 : ∀ w ∈ wsX50, w ∈ wsL_law := fun _ h => List.mem_append_left _ (List.mem_append_left _ (List.mem_append_left _ (List.mem_append_left _ (List.mem_append_right _ h))))
theorem inlX6 : ∀ w ∈ wsX60, w ∈ wsL_law := fun _ h => List.mem_append_left _ (List.mem_append_left _ (List.mem_append_left _ (List.mem_append_left _ (List.mem_append_left _ (List.mem_append_left _ (List.mem_append_left _ (List.mem_append_left _ (List.mem_append_right _ h))))))))
theorem inlX7 : ∀ w ∈ wsX70, w ∈ wsL_law := fun _ h => List.mem_append_left _ (List.mem_append_left _ (List.mem_append_left _ (List.mem_append_left _ (List.mem_append_left _ (List.mem_append_left _ (List.mem_append_left _ (List.mem_append_right _ h)))))))
abbrev vwCl : List vw_C := [(RX0, TX0, 3), (RX1, TX1, 8), (RX2, TX2, 4), (RX3, TX3, 4), (RX4, TX4, 5), (RX5, TX5, 12), (RX6, TX6, 12), (RX7, TX7, 25)]
end
section
/-! the abstract machine: cells by number, numbers of a cell by place; a world out of a layout -/
abbrev rf_Mem : Type := Nat → Nat → Int32
def rf_row (M : rf_Mem) (k : Nat) (f : Nat → Int32) : rf_Mem := fun a => if a = k then f else M a
def rf_set (M : rf_Mem) (k j : Nat) (v : Int32) : rf_Mem := rf_row M k (upd (M k) j v)
abbrev rf_Cell : Type := (Nat × List (Option Nat)) ⊕ ((Nat × Nat) ⊕ (List Nat))
abbrev rf_G : Type := ClassId × ClassId × ClassId
def rf_tys (g : rf_G) : List (ClassId × FieldType) := [(g.1, .int), (g.2.1, .boolean), (g.2.2, .object RX5)]
def rf_cv (ad : Nat → Nat) (v : Value) : Value := match v with
  | .ref k => .ref (ad k)
  | .int x => .int x
  | .long x => .long x
  | v => v
theorem rf_cv_cat (ad : Nat → Nat) (v : Value) : (rf_cv ad v).category = v.category := by cases v <;> rfl
def rf_fs (ad : Nat → Nat) (f : Nat → Int32) : Nat → List (Option Nat) → List Value
  | _, [] => []
  | j, none :: l => .int (f j) :: rf_fs ad f (j + 1) l
  | j, some c :: l => .ref (ad c) :: rf_fs ad f (j + 1) l
def rf_w (g : rf_G) (ad : Nat → Nat) (M : rf_Mem) (k : Nat) (c : rf_Cell) : Nat × va_E := (ad k, match c with
  | .inl o => .inr (o.1, rf_fs ad (M k) 0 o.2)
  | .inr (.inl a) => .inl (if a.2 = 0 then g.1 else g.2.1, a.1, .inl (M k))
  | .inr (.inr cs) => .inl (g.2.2, cs.length, .inr (.inr (.inr (.inr (fun j => (cs[j]?).map ad))))))
def rf_W (g : rf_G) (ad : Nat → Nat) (M : rf_Mem) : Nat → List rf_Cell → va_W
  | _, [] => []
  | k, c :: l => rf_w g ad M k c :: rf_W g ad M (k + 1) l
theorem rf_W_get (g : rf_G) (ad : Nat → Nat) (M : rf_Mem) : ∀ (Lay : List rf_Cell) (k0 k : Nat), (rf_W g ad M k0 Lay)[k]? = (Lay[k]?).map (rf_w g ad M (k0 + k)) := by
  intro Lay
  induction Lay with
  | nil => intro k0 k; simp [rf_W]
  | cons c l ih =>
    intro k0 k
    cases k with
    | zero => simp [rf_W]
    | succ k => simp [rf_W, ih (k0 + 1) k, Nat.add_assoc, Nat.add_comm 1 k]
theorem rf_fs_get (ad : Nat → Nat) (f : Nat → Int32) : ∀ (l : List (Option Nat)) (j0 j : Nat), (rf_fs ad f j0 l)[j]? = (l[j]?).map (fun o => match o with | none => Value.int (f (j0 + j)) | some c => Value.ref (ad c)) := by
  intro l
  induction l with
  | nil => intro j0 j; simp [rf_fs]
  | cons o l ih =>
    intro j0 j
    cases o <;> cases j with
    | zero => simp [rf_fs]
    | succ j => simp [rf_fs, ih (j0 + 1) j, Nat.add_assoc, Nat.add_comm 1 j]
theorem rf_fs_cong (ad : Nat → Nat) (f f' : Nat → Int32) : ∀ (l : List (Option Nat)) (j0 : Nat), (∀ j, j0 ≤ j → f j = f' j) → rf_fs ad f j0 l = rf_fs ad f' j0 l := by
  intro l
  induction l with
  | nil => intro j0 _; rfl
  | cons o l ih =>
    intro j0 h
    cases o with
    | none => simp only [rf_fs]; rw [h j0 (Nat.le_refl _), ih (j0 + 1) (fun j hj => h j (by omega))]
    | some c => simp only [rf_fs]; rw [ih (j0 + 1) (fun j hj => h j (by omega))]
theorem rf_fs_set (ad : Nat → Nat) (f : Nat → Int32) (v : Int32) : ∀ (l : List (Option Nat)) (j0 j : Nat), l[j]? = some none → (rf_fs ad f j0 l).set j (.int v) = rf_fs ad (upd f (j0 + j) v) j0 l := by
  intro l
  induction l with
  | nil => intro j0 j h; simp at h
  | cons o l ih =>
    intro j0 j h
    cases j with
    | zero =>
      simp at h
      subst h
      simp only [rf_fs, List.set_cons_zero]
      rw [rf_fs_cong ad f (upd f (j0 + 0) v) l (j0 + 1) (fun j hj => by simp [upd]; omega)]
      simp [upd]
    | succ j =>
      have e := ih (j0 + 1) j (by simpa using h)
      have e2 : j0 + 1 + j = j0 + (j + 1) := by omega
      rw [e2] at e
      cases o with
      | none => simp only [rf_fs, List.set_cons_succ]; rw [e]; simp [upd]
      | some c => simp only [rf_fs, List.set_cons_succ]; rw [e]
theorem rf_w_cong {g : rf_G} {ad : Nat → Nat} {M M' : rf_Mem} {k : Nat} {c : rf_Cell} (h : M k = M' k) : rf_w g ad M k c = rf_w g ad M' k c := by
  unfold rf_w
  rw [h]
theorem rf_W_cong {g : rf_G} {ad : Nat → Nat} {M M' : rf_Mem} : ∀ (l : List rf_Cell) (k0 : Nat), (∀ k, k0 ≤ k → M k = M' k) → rf_W g ad M k0 l = rf_W g ad M' k0 l := by
  intro l
  induction l with
  | nil => intro k0 _; rfl
  | cons c l ih =>
    intro k0 h
    simp only [rf_W]
    rw [rf_w_cong (h k0 (Nat.le_refl _)), ih (k0 + 1) (fun k hk => h k (by omega))]
theorem rf_row_same (M : rf_Mem) (k : Nat) (f : Nat → Int32) : rf_row M k f k = f := by simp [rf_row]
theorem rf_row_ne (M : rf_Mem) {k a : Nat} (f : Nat → Int32) (h : a ≠ k) : rf_row M k f a = M a := by simp [rf_row, h]
theorem rf_W_set (g : rf_G) (ad : Nat → Nat) (M : rf_Mem) (f : Nat → Int32) (c : rf_Cell) : ∀ (l : List rf_Cell) (k0 k : Nat), l[k]? = some c → (rf_W g ad M k0 l).set k (rf_w g ad (rf_row M (k0 + k) f) (k0 + k) c) = rf_W g ad (rf_row M (k0 + k) f) k0 l := by
  intro l
  induction l with
  | nil => intro k0 k h; simp at h
  | cons d l ih =>
    intro k0 k h
    cases k with
    | zero =>
      simp at h
      subst h
      simp only [rf_W, List.set_cons_zero, Nat.add_zero]
      rw [rf_W_cong (M := M) (M' := rf_row M k0 f) l (k0 + 1) (fun k hk => (rf_row_ne M f (by omega)).symm)]
    | succ k =>
      have e := ih (k0 + 1) k (by simpa using h)
      have e2 : k0 + 1 + k = k0 + (k + 1) := by omega
      rw [e2] at e
      simp only [rf_W, List.set_cons_succ]
      rw [e, rf_w_cong (M := M) (M' := rf_row M (k0 + (k + 1)) f) (rf_row_ne M f (by omega)).symm]
theorem rf_W0 (g : rf_G) (ad : Nat → Nat) (M : rf_Mem) {Lay : List rf_Cell} {q : Nat} {c : rf_Cell} (h : Lay[q]? = some c) : (rf_W g ad M 0 Lay)[q]? = some (rf_w g ad M q c) := by
  rw [rf_W_get, h, Nat.zero_add]
  rfl
theorem rf_S0 (g : rf_G) (ad : Nat → Nat) (M : rf_Mem) (f : Nat → Int32) {Lay : List rf_Cell} {q : Nat} {c : rf_Cell} (h : Lay[q]? = some c) : (rf_W g ad M 0 Lay).set q (rf_w g ad (rf_row M q f) q c) = rf_W g ad (rf_row M q f) 0 Lay := by
  have e := rf_W_set g ad M f c Lay 0 q h
  rw [Nat.zero_add] at e
  exact e
theorem rf_D {A : Nat → Prop} {g : rf_G} {ad : Nat → Nat} {M M' : rf_Mem} {Lay : List rf_Cell} (h : va_D A (rf_W g ad M 0 Lay)) : va_D A (rf_W g ad M' 0 Lay) := by
  have key : ∀ (k : Nat) (q : Nat × va_E), (rf_W g ad M' 0 Lay)[k]? = some q → ∃ q', (rf_W g ad M 0 Lay)[k]? = some q' ∧ q'.1 = q.1 := by
    intro k q hq
    rw [rf_W_get] at hq
    rw [rf_W_get]
    cases hc : Lay[k]? with
    | none => rw [hc] at hq; cases hq
    | some c =>
      rw [hc] at hq
      cases hq
      exact ⟨_, rfl, rfl⟩
  refine ⟨fun i j a b ha hb he => ?_, fun k q hk => ?_⟩
  · obtain ⟨a', h1, h2⟩ := key i a ha
    obtain ⟨b', h3, h4⟩ := key j b hb
    exact h.1 i j a' b' h1 h3 (by rw [h2, h4]; exact he)
  · obtain ⟨q', h1, h2⟩ := key k q hk
    rw [← h2]
    exact h.2 k q' h1
theorem rf_A {g : rf_G} {ad : Nat → Nat} {M M' : rf_Mem} {Lay : List rf_Cell} {sz sz' : Nat} (hs : sz' ≤ sz) {q : Nat} (h : va_A (rf_W g ad M 0 Lay) sz q) : va_A (rf_W g ad M' 0 Lay) sz' q := by
  rcases h with ⟨k, e, hk⟩ | h
  · rw [rf_W_get] at hk
    cases hc : Lay[k]? with
    | none => rw [hc] at hk; cases hk
    | some c =>
      rw [hc] at hk
      refine Or.inl ⟨k, (rf_w g ad M' (0 + k) c).2, ?_⟩
      rw [rf_W_get, hc]
      have e1 : ad (0 + k) = q := congrArg (fun z => (z : Nat × va_E).1) (Option.some.inj hk)
      show some (rf_w g ad M' (0 + k) c) = some (q, (rf_w g ad M' (0 + k) c).2)
      rw [← e1]
      rfl
  · exact Or.inr (Nat.le_trans hs h)
/-! locals -/
def rf_lv (ad : Nat → Nat) : Nat → List (Option Value) → List (Nat × Value)
  | _, [] => []
  | i, none :: L => rf_lv ad (i + 1) L
  | i, some v :: L => (i, rf_cv ad v) :: rf_lv ad (i + 1) L
theorem rf_lv_in (ad : Nat → Nat) : ∀ (L : List (Option Value)) (i k : Nat) (v : Value), L[k]? = some (some v) → (i + k, rf_cv ad v) ∈ rf_lv ad i L := by
  intro L
  induction L with
  | nil => intro i k v h; simp at h
  | cons o L ih =>
    intro i k v h
    cases k with
    | zero =>
      simp at h
      subst h
      simp [rf_lv]
    | succ k =>
      have e := ih (i + 1) k v (by simpa using h)
      have e2 : i + 1 + k = i + (k + 1) := by omega
      rw [e2] at e
      cases o with
      | none => exact e
      | some w => exact List.mem_cons_of_mem _ e
theorem rf_lv_of (ad : Nat → Nat) : ∀ (L : List (Option Value)) (i : Nat) (q : Nat × Value), q ∈ rf_lv ad i L → ∃ k v, q = (i + k, rf_cv ad v) ∧ L[k]? = some (some v) := by
  intro L
  induction L with
  | nil => intro i q h; cases h
  | cons o L ih =>
    intro i q h
    cases o with
    | none =>
      obtain ⟨k, v, h1, h2⟩ := ih (i + 1) q h
      exact ⟨k + 1, v, by rw [h1]; congr 1; omega, by simpa using h2⟩
    | some w =>
      rcases List.mem_cons.mp h with h | h
      · exact ⟨0, w, h, rfl⟩
      · obtain ⟨k, v, h1, h2⟩ := ih (i + 1) q h
        exact ⟨k + 1, v, by rw [h1]; congr 1; omega, by simpa using h2⟩
def rf_okset (L : List (Option Value)) (i : Nat) : Bool := match i with
  | 0 => true
  | j + 1 => match L[j]? with
    | some (some v) => v.category != 2
    | _ => true
theorem rf_lv_set {ad : Nat → Nat} {ls : Array Slot} {n i : Nat} {L : List (Option Value)} {v : Value} (h : lv_has ls n ((i, rf_cv ad v) :: (rf_lv ad 0 L).filter (fun q => !(q.1 == i) && !(q.1 + 1 == i && q.2.category == 2)))) (ho : rf_okset L i = true) : lv_has ls n (rf_lv ad 0 (L.set i (some v))) := by
  refine ⟨h.1, h.2.1, fun q hq => ?_⟩
  obtain ⟨k, w, rfl, hk⟩ := rf_lv_of ad _ 0 q hq
  rw [Nat.zero_add] at hq ⊢
  by_cases e : k = i
  · subst e
    have hlt : k < L.length := by
      have h3 := (List.getElem?_eq_some_iff.mp hk).1
      simpa using h3
    rw [List.getElem?_set_self hlt] at hk
    have e2 : v = w := by simpa using hk
    rw [← e2]
    exact h.2.2 _ List.mem_cons_self
  · rw [List.getElem?_set_ne (fun z => e z.symm)] at hk
    have h3 := rf_lv_in ad L 0 k w hk
    rw [Nat.zero_add] at h3
    refine h.2.2 _ (List.mem_cons_of_mem _ (List.mem_filter.mpr ⟨h3, ?_⟩))
    have e1 : (k == i) = false := by simpa using e
    simp only [e1, Bool.not_false, Bool.true_and]
    cases i with
    | zero => simp
    | succ j =>
      by_cases e3 : k = j
      · subst e3
        simp only [rf_okset, hk] at ho
        rw [rf_cv_cat]
        simpa using ho
      · have e4 : (k + 1 == j + 1) = false := by simpa using e3
        rw [e4]
        rfl
def rf_sl (vs : List Value) : List (Option Value) := vs.flatMap fun v => if v.category = 2 then [some v, none] else [some v]
def rf_ent (n : Nat) (vs : List Value) : List (Option Value) := rf_sl vs ++ List.replicate (n - (rf_sl vs).length) none
theorem rf_lv_none (ad : Nat → Nat) : ∀ (k i : Nat), rf_lv ad i (List.replicate k none) = [] := by
  intro k
  induction k with
  | zero => intro i; rfl
  | succ k ih => intro i; exact ih (i + 1)
theorem rf_lv_args (ad : Nat → Nat) (k : Nat) : ∀ (vs : List Value) (i : Nat), rf_lv ad i (rf_sl vs ++ List.replicate k none) = lv_args i (vs.map (rf_cv ad)) := by
  intro vs
  induction vs with
  | nil => intro i; exact rf_lv_none ad k i
  | cons v vs ih =>
    intro i
    by_cases h : v.category = 2
    · have e : rf_sl (v :: vs) = some v :: none :: rf_sl vs := by simp [rf_sl, h]
      rw [e]
      show (i, rf_cv ad v) :: rf_lv ad (i + 1 + 1) (rf_sl vs ++ List.replicate k none) = _
      rw [ih]
      simp [lv_args, rf_cv_cat, h]
    · have e : rf_sl (v :: vs) = some v :: rf_sl vs := by simp [rf_sl, h]
      rw [e]
      show (i, rf_cv ad v) :: rf_lv ad (i + 1) (rf_sl vs ++ List.replicate k none) = _
      rw [ih]
      simp [lv_args, rf_cv_cat, h]
theorem rf_sl_len (ad : Nat → Nat) : ∀ (vs : List Value), (lg_sl (vs.map (rf_cv ad))).length = (rf_sl vs).length := by
  intro vs
  induction vs with
  | nil => rfl
  | cons v vs ih =>
    by_cases h : v.category = 2
    · simp only [lg_sl, rf_sl, List.map_cons, List.flatMap_cons, rf_cv_cat, h, if_true, List.length_append] at ih ⊢
      simp only [ih, List.length_cons, List.length_nil]
    · simp only [lg_sl, rf_sl, List.map_cons, List.flatMap_cons, rf_cv_cat, h, if_false, List.length_append] at ih ⊢
      simp only [ih, List.length_cons, List.length_nil]
end
section
/-! a method: name, bytes, locals, answer's type, room -/
abbrev rf_Me : Type := MethodName × ByteArray × Nat × Option FieldType × Room
def rf_ws (y : rf_Me) : List Cond := Cond.code y.1 y.2.1 y.2.2.1 y.2.2.2.1 :: wsL_law
def rf_len : List Nat := [4, 6, 6, 5, 7, 5, 7, 5]
def rf_byt : List (List Int32) := [[108, 105, 110, 101], [114, 101, 97, 100, 101, 114], [115, 105, 108, 101, 110, 116], [97, 108, 111, 117, 100], [99, 111, 112, 121, 105, 115, 116], [116, 104, 105, 101, 102], [116, 101, 97, 99, 104, 101, 114], [101, 114, 114, 111, 114]]
def rf_sx : List (Nat × String) := [(44, "line"), (54, "reader"), (98, "silent"), (100, "aloud"), (102, "copyist"), (104, "thief"), (106, "teacher"), (59, "error")]
/-- what is carried beside the world: the nest's one link, the texts of the parser, the JDK's one static -/
def rf_X (ad : Nat → Nat) (A : Nat → Prop) (U : State) (H : Heap) : Prop :=
  va_Nw (.methodLinkNest RX3 26 yX6_has RX6) U ∧ (∀ (j : Nat) (q : Nat × String), rf_sx[j]? = some q → vk_R RX4 q.1 q.2 (ad (1000 + j)) U) ∧ vk_S 8 rf_len rf_byt (fun j => ad (1000 + j)) (fun j => ad (2000 + j)) A U H ∧ va_Z "java/lang/String" "COMPACT_STRINGS" "Z" (.int 1) A U H
theorem rf_X.warm {ad : Nat → Nat} {A : Nat → Prop} {s U : State} {H : Heap} (hW : s.WarmedH U.vm) (h : rf_X ad A s H) : rf_X ad A U H :=
  ⟨va_Nw.warmM hW h.1, fun j q hq => (h.2.1 j q hq).warm hW, h.2.2.1.moved hW.alike, h.2.2.2.moved hW.alike⟩
theorem rf_X.kept {ad : Nat → Nat} {A : Nat → Prop} {U : State} {H H1 : Heap} (h : rf_X ad A U H) (hq : ∀ a : Nat, a < H.size → ¬ A a → H1[a]? = H[a]?) : rf_X ad A U H1 :=
  ⟨h.1, h.2.1, h.2.2.1.kept hq, h.2.2.2.kept hq⟩
theorem rf_X.narrow {ad : Nat → Nat} {A B : Nat → Prop} {U : State} {H : Heap} (h : rf_X ad A U H) (hAB : ∀ q, B q → A q) : rf_X ad B U H :=
  ⟨h.1, h.2.1, h.2.2.1.narrow hAB, h.2.2.2.narrow hAB⟩
theorem rf_X.same {ad : Nat → Nat} {A : Nat → Prop} {u U : State} {H : Heap} (hv : U.vm = u.vm) (h : rf_X ad A u H) : rf_X ad A U H :=
  ⟨va_Nw.same rfl hv.symm h.1, fun j q hq => (h.2.1 j q hq).same hv, h.2.2.1.moved (hv ▸ Vm.Alike.refl _), h.2.2.2.moved (hv ▸ Vm.Alike.refl _)⟩
/-- where a method stands -/
def rf_cx (y : rf_Me) (p : Program) (s : State) (m : MethodId) (args : Array Value) (meth : Method) (c : Code) (D : va_G) (g : rf_G) (ad : Nat → Nat) (A : Nat → Prop) : Prop :=
  p.tables.exec = Jvm.exec ∧ c.code = y.2.1 ∧ meth.sig.returnType = y.2.2.2.1 ∧ meth.locks = false ∧ c.maxLocals = y.2.2.1 ∧ s.vm.findClass y.1.cls = some m.cls ∧ (∀ w ∈ wsL_law, w.before args s = true) ∧ va_K D vwCl (rf_tys g) s ∧ (∀ q, s.heap.size ≤ q → A q) ∧ rf_X ad A s s.heap
def rf_Q (D : va_G) (g : rf_G) (ad : Nat → Nat) (A : Nat → Prop) (Lay : List rf_Cell) (r : Option Value) (M' : rf_Mem) : Array Value → State → Outcome → State → Prop := fun _ st oc t =>
  (oc = .returned (r.map (rf_cv ad)) ∧ va_P D vwCl (rf_W g ad M' 0 Lay) t.heap) ∧ va_F A st t
/-- from this place of the method, with these locals, this stack and this memory, it comes to its end with the answer r and the memory M' -/
def Ev (Lay : List rf_Cell) (y : rf_Me) (pc : Nat) (L : List (Option Value)) (st : List Value) (M : rf_Mem) (r : Option Value) (M' : rf_Mem) : Prop :=
  ∀ (p : Program) (l : Launch) (e : Env) (s : State) (m : MethodId) (args : Array Value) (below : List Frame) (meth : Method) (c : Code) (D : va_G) (g : rf_G) (ad : Nat → Nat) (A : Nat → Prop) (H : Heap) (locs : List Loc) (ls : Array Slot),
    rf_cx y p s m args meth c D g ad A → va_P D vwCl (rf_W g ad M 0 Lay) H → va_D A (rf_W g ad M 0 Lay) → va_S A s.heap H locs → lv_has ls y.2.2.1 (rf_lv ad 0 L) →
    W p l e y.2.2.2.2 s m args below meth c H locs 0 0 (MQ below (rf_Q D g ad A Lay r M') args s 0 0 A) (F0 m pc ls (st.map (rf_cv ad)))
def rf_Pre (D : va_G) (g : rf_G) (ad : Nat → Nat) (Lay : List rf_Cell) (M : rf_Mem) (sz : Nat) (av : List Value) : Array Value → State → Prop := va_Pc (av.map (rf_cv ad)) (fun U => U.heap.size = sz ∧ va_P D vwCl (rf_W g ad M 0 Lay) U.heap ∧ va_K D vwCl (rf_tys g) U ∧ va_D (fun _ => True) (rf_W g ad M 0 Lay) ∧ rf_X ad (va_A (rf_W g ad M 0 Lay) sz) U U.heap)
/-- the contract of a method out of its walk -/
theorem rf_met {Lay : List rf_Cell} {y : rf_Me} {av : List Value} {M : rf_Mem} {r : Option Value} {M' : rf_Mem} (hpl : plainName y.1.cls = true) (hent : (rf_sl av).length ≤ y.2.2.1) (h : Ev Lay y 0 (rf_ent y.2.2.1 av) [] M r M') (l : Launch) (D : va_G) (g : rf_G) (ad : Nat → Nat) (sz : Nat) :
    Met l y.1 (rf_ws y) y.2.2.2.2 (rf_Pre D g ad Lay M sz av) (rf_Q D g ad (va_A (rf_W g ad M 0 Lay) sz) Lay r M') 0 0 (va_A (rf_W g ad M 0 Lay) sz) := by
  refine Met.ofW (cc := y.2.1) (maxL := y.2.2.1) (ret := y.2.2.2.1) hpl rfl ?_
  intro p e s m args below meth c s₁ B hml hv
  obtain ⟨rfl, hsz, hP, hK, hD0, hX⟩ := hv
  subst hsz
  have hl := lv_entry (av.map (rf_cv ad)) (n := y.2.2.1) (by rw [rf_sl_len]; exact hent)
  rw [lg_entry_eq]
  rw [← rf_lv_args ad (y.2.2.1 - (rf_sl av).length) av 0] at hl
  exact h p l e s m _ below meth c D g ad _ s.heap [] _ ⟨B.exec, B.bytes, B.returns, B.notSynchronized, hml, findClass_of_methodNamed B.named, fun w hw => (atoms_spec (ws := rf_ws y) B.pre) w (List.mem_cons_of_mem _ hw), hK, fun q h => Or.inr h, hX⟩ hP hD0.self va_S.rf hl

theorem ev_iconst {Lay : List rf_Cell} {y : rf_Me} {pc : Nat} {L : List (Option Value)} {st : List Value} {M : rf_Mem} {r : Option Value} {M' : rf_Mem} {n : Int} {v : Int32} (hd : decode y.2.1 pc = .ok (.iconst n, 1)) (hv : Int32.ofInt n = v) (h : Ev Lay y (pc + 1) L (.int v :: st) M r M') : Ev Lay y pc L (st) M r M' := by
  intro p l e s m args below meth c D g ad A H locs ls C hP hD hS hl
  exact lv_iconst C.1 C.2.1 hd hv (h p l e s m args below meth c D g ad A H locs ls C hP hD hS hl)
theorem ev_bipush {Lay : List rf_Cell} {y : rf_Me} {pc : Nat} {L : List (Option Value)} {st : List Value} {M : rf_Mem} {r : Option Value} {M' : rf_Mem} {n : Int} {v : Int32} (hd : decode y.2.1 pc = .ok (.bipush n, 2)) (hv : (Int8.ofInt n).toInt32 = v) (h : Ev Lay y (pc + 2) L (.int v :: st) M r M') : Ev Lay y pc L (st) M r M' := by
  intro p l e s m args below meth c D g ad A H locs ls C hP hD hS hl
  exact lv_bipush C.1 C.2.1 hd hv (h p l e s m args below meth c D g ad A H locs ls C hP hD hS hl)
theorem ev_sipush {Lay : List rf_Cell} {y : rf_Me} {pc : Nat} {L : List (Option Value)} {st : List Value} {M : rf_Mem} {r : Option Value} {M' : rf_Mem} {n : Int} {v : Int32} (hd : decode y.2.1 pc = .ok (.sipush n, 3)) (hv : (Int16.ofInt n).toInt32 = v) (h : Ev Lay y (pc + 3) L (.int v :: st) M r M') : Ev Lay y pc L (st) M r M' := by
  intro p l e s m args below meth c D g ad A H locs ls C hP hD hS hl
  exact lv_sipush C.1 C.2.1 hd hv (h p l e s m args below meth c D g ad A H locs ls C hP hD hS hl)
theorem ev_lconst {Lay : List rf_Cell} {y : rf_Me} {pc : Nat} {L : List (Option Value)} {st : List Value} {M : rf_Mem} {r : Option Value} {M' : rf_Mem} {n : Fin 2} {v : Int64} (hd : decode y.2.1 pc = .ok (.lconst n, 1)) (hv : Int64.ofNat (n : Nat) = v) (h : Ev Lay y (pc + 1) L (.long v :: st) M r M') : Ev Lay y pc L (st) M r M' := by
  intro p l e s m args below meth c D g ad A H locs ls C hP hD hS hl
  exact lv_lconst C.1 C.2.1 hd hv (h p l e s m args below meth c D g ad A H locs ls C hP hD hS hl)
theorem ev_iload {Lay : List rf_Cell} {y : rf_Me} {pc : Nat} {L : List (Option Value)} {st : List Value} {M : rf_Mem} {r : Option Value} {M' : rf_Mem} {i : Nat} {x : Int32} (hd : decode y.2.1 pc = .ok (.iload i, 2)) (hL : L[i]? = some (some (.int x))) (h : Ev Lay y (pc + 2) L (.int x :: st) M r M') : Ev Lay y pc L (st) M r M' := by
  intro p l e s m args below meth c D g ad A H locs ls C hP hD hS hl
  have hi : ls[i]? = some (.val (.int x)) := by
    have h3 := rf_lv_in ad L 0 i _ hL
    rw [Nat.zero_add] at h3
    exact hl.2.2 _ h3
  exact lv_iload C.1 C.2.1 hd hi (h p l e s m args below meth c D g ad A H locs ls C hP hD hS hl)
theorem ev_iload_n {Lay : List rf_Cell} {y : rf_Me} {pc : Nat} {L : List (Option Value)} {st : List Value} {M : rf_Mem} {r : Option Value} {M' : rf_Mem} {k : Fin 4} {x : Int32} (hd : decode y.2.1 pc = .ok (.iload_n k, 1)) (hL : L[k.val]? = some (some (.int x))) (h : Ev Lay y (pc + 1) L (.int x :: st) M r M') : Ev Lay y pc L st M r M' := by
  intro p l e s m args below meth c D g ad A H locs ls C hP hD hS hl
  have hi : ls[k.val]? = some (.val (.int x)) := by
    have h3 := rf_lv_in ad L 0 k.val _ hL
    rw [Nat.zero_add] at h3
    exact hl.2.2 _ h3
  exact lv_iload_n C.1 C.2.1 hd rfl hi (h p l e s m args below meth c D g ad A H locs ls C hP hD hS hl)
theorem ev_lload {Lay : List rf_Cell} {y : rf_Me} {pc : Nat} {L : List (Option Value)} {st : List Value} {M : rf_Mem} {r : Option Value} {M' : rf_Mem} {i : Nat} {x : Int64} (hd : decode y.2.1 pc = .ok (.lload i, 2)) (hL : L[i]? = some (some (.long x))) (h : Ev Lay y (pc + 2) L (.long x :: st) M r M') : Ev Lay y pc L (st) M r M' := by
  intro p l e s m args below meth c D g ad A H locs ls C hP hD hS hl
  have hi : ls[i]? = some (.val (.long x)) := by
    have h3 := rf_lv_in ad L 0 i _ hL
    rw [Nat.zero_add] at h3
    exact hl.2.2 _ h3
  exact lv_lload C.1 C.2.1 hd hi (h p l e s m args below meth c D g ad A H locs ls C hP hD hS hl)
theorem ev_lload_n {Lay : List rf_Cell} {y : rf_Me} {pc : Nat} {L : List (Option Value)} {st : List Value} {M : rf_Mem} {r : Option Value} {M' : rf_Mem} {k : Fin 4} {x : Int64} (hd : decode y.2.1 pc = .ok (.lload_n k, 1)) (hL : L[k.val]? = some (some (.long x))) (h : Ev Lay y (pc + 1) L (.long x :: st) M r M') : Ev Lay y pc L st M r M' := by
  intro p l e s m args below meth c D g ad A H locs ls C hP hD hS hl
  have hi : ls[k.val]? = some (.val (.long x)) := by
    have h3 := rf_lv_in ad L 0 k.val _ hL
    rw [Nat.zero_add] at h3
    exact hl.2.2 _ h3
  exact lv_lload_n C.1 C.2.1 hd rfl hi (h p l e s m args below meth c D g ad A H locs ls C hP hD hS hl)
theorem ev_aload {Lay : List rf_Cell} {y : rf_Me} {pc : Nat} {L : List (Option Value)} {st : List Value} {M : rf_Mem} {r : Option Value} {M' : rf_Mem} {i : Nat} {x : Nat} (hd : decode y.2.1 pc = .ok (.aload i, 2)) (hL : L[i]? = some (some (.ref x))) (h : Ev Lay y (pc + 2) L (.ref x :: st) M r M') : Ev Lay y pc L (st) M r M' := by
  intro p l e s m args below meth c D g ad A H locs ls C hP hD hS hl
  have hi : ls[i]? = some (.val (.ref (ad x))) := by
    have h3 := rf_lv_in ad L 0 i _ hL
    rw [Nat.zero_add] at h3
    exact hl.2.2 _ h3
  exact lv_aload C.1 C.2.1 hd hi (h p l e s m args below meth c D g ad A H locs ls C hP hD hS hl)
theorem ev_aload_n {Lay : List rf_Cell} {y : rf_Me} {pc : Nat} {L : List (Option Value)} {st : List Value} {M : rf_Mem} {r : Option Value} {M' : rf_Mem} {k : Fin 4} {x : Nat} (hd : decode y.2.1 pc = .ok (.aload_n k, 1)) (hL : L[k.val]? = some (some (.ref x))) (h : Ev Lay y (pc + 1) L (.ref x :: st) M r M') : Ev Lay y pc L st M r M' := by
  intro p l e s m args below meth c D g ad A H locs ls C hP hD hS hl
  have hi : ls[k.val]? = some (.val (.ref (ad x))) := by
    have h3 := rf_lv_in ad L 0 k.val _ hL
    rw [Nat.zero_add] at h3
    exact hl.2.2 _ h3
  exact lv_aload_n C.1 C.2.1 hd rfl hi (h p l e s m args below meth c D g ad A H locs ls C hP hD hS hl)
theorem ev_iadd {Lay : List rf_Cell} {y : rf_Me} {pc : Nat} {L : List (Option Value)} {st : List Value} {M : rf_Mem} {r : Option Value} {M' : rf_Mem} {x z : Int32} (hd : decode y.2.1 pc = .ok (.iadd, 1)) (h : Ev Lay y (pc + 1) L (.int (x + z) :: st) M r M') : Ev Lay y pc L (.int z :: .int x :: st) M r M' := by
  intro p l e s m args below meth c D g ad A H locs ls C hP hD hS hl
  exact lv_iadd C.1 C.2.1 hd  (h p l e s m args below meth c D g ad A H locs ls C hP hD hS hl)
theorem ev_isub {Lay : List rf_Cell} {y : rf_Me} {pc : Nat} {L : List (Option Value)} {st : List Value} {M : rf_Mem} {r : Option Value} {M' : rf_Mem} {x z : Int32} (hd : decode y.2.1 pc = .ok (.isub, 1)) (h : Ev Lay y (pc + 1) L (.int (x - z) :: st) M r M') : Ev Lay y pc L (.int z :: .int x :: st) M r M' := by
  intro p l e s m args below meth c D g ad A H locs ls C hP hD hS hl
  exact lv_isub C.1 C.2.1 hd  (h p l e s m args below meth c D g ad A H locs ls C hP hD hS hl)
theorem ev_imul {Lay : List rf_Cell} {y : rf_Me} {pc : Nat} {L : List (Option Value)} {st : List Value} {M : rf_Mem} {r : Option Value} {M' : rf_Mem} {x z : Int32} (hd : decode y.2.1 pc = .ok (.imul, 1)) (h : Ev Lay y (pc + 1) L (.int (x * z) :: st) M r M') : Ev Lay y pc L (.int z :: .int x :: st) M r M' := by
  intro p l e s m args below meth c D g ad A H locs ls C hP hD hS hl
  exact lv_imul C.1 C.2.1 hd  (h p l e s m args below meth c D g ad A H locs ls C hP hD hS hl)
theorem ev_iand {Lay : List rf_Cell} {y : rf_Me} {pc : Nat} {L : List (Option Value)} {st : List Value} {M : rf_Mem} {r : Option Value} {M' : rf_Mem} {x z : Int32} (hd : decode y.2.1 pc = .ok (.iand, 1)) (h : Ev Lay y (pc + 1) L (.int (x &&& z) :: st) M r M') : Ev Lay y pc L (.int z :: .int x :: st) M r M' := by
  intro p l e s m args below meth c D g ad A H locs ls C hP hD hS hl
  exact lv_iand C.1 C.2.1 hd  (h p l e s m args below meth c D g ad A H locs ls C hP hD hS hl)
theorem ev_ior {Lay : List rf_Cell} {y : rf_Me} {pc : Nat} {L : List (Option Value)} {st : List Value} {M : rf_Mem} {r : Option Value} {M' : rf_Mem} {x z : Int32} (hd : decode y.2.1 pc = .ok (.ior, 1)) (h : Ev Lay y (pc + 1) L (.int (x ||| z) :: st) M r M') : Ev Lay y pc L (.int z :: .int x :: st) M r M' := by
  intro p l e s m args below meth c D g ad A H locs ls C hP hD hS hl
  exact lv_ior C.1 C.2.1 hd  (h p l e s m args below meth c D g ad A H locs ls C hP hD hS hl)
theorem ev_ixor {Lay : List rf_Cell} {y : rf_Me} {pc : Nat} {L : List (Option Value)} {st : List Value} {M : rf_Mem} {r : Option Value} {M' : rf_Mem} {x z : Int32} (hd : decode y.2.1 pc = .ok (.ixor, 1)) (h : Ev Lay y (pc + 1) L (.int (x ^^^ z) :: st) M r M') : Ev Lay y pc L (.int z :: .int x :: st) M r M' := by
  intro p l e s m args below meth c D g ad A H locs ls C hP hD hS hl
  exact lv_ixor C.1 C.2.1 hd  (h p l e s m args below meth c D g ad A H locs ls C hP hD hS hl)
theorem ev_idiv {Lay : List rf_Cell} {y : rf_Me} {pc : Nat} {L : List (Option Value)} {st : List Value} {M : rf_Mem} {r : Option Value} {M' : rf_Mem} {x z : Int32} (hd : decode y.2.1 pc = .ok (.idiv, 1)) (hne : ¬ z = 0) (h : Ev Lay y (pc + 1) L (.int (x / z) :: st) M r M') : Ev Lay y pc L (.int z :: .int x :: st) M r M' := by
  intro p l e s m args below meth c D g ad A H locs ls C hP hD hS hl
  exact lv_idiv C.1 C.2.1 hd hne (h p l e s m args below meth c D g ad A H locs ls C hP hD hS hl)
theorem ev_irem {Lay : List rf_Cell} {y : rf_Me} {pc : Nat} {L : List (Option Value)} {st : List Value} {M : rf_Mem} {r : Option Value} {M' : rf_Mem} {x z : Int32} (hd : decode y.2.1 pc = .ok (.irem, 1)) (hne : ¬ z = 0) (h : Ev Lay y (pc + 1) L (.int (x - x / z * z) :: st) M r M') : Ev Lay y pc L (.int z :: .int x :: st) M r M' := by
  intro p l e s m args below meth c D g ad A H locs ls C hP hD hS hl
  exact lv_irem C.1 C.2.1 hd hne (h p l e s m args below meth c D g ad A H locs ls C hP hD hS hl)
theorem ev_ishl {Lay : List rf_Cell} {y : rf_Me} {pc : Nat} {L : List (Option Value)} {st : List Value} {M : rf_Mem} {r : Option Value} {M' : rf_Mem} {x z : Int32} (hd : decode y.2.1 pc = .ok (.ishl, 1)) (h : Ev Lay y (pc + 1) L (.int (x <<< (z &&& 31)) :: st) M r M') : Ev Lay y pc L (.int z :: .int x :: st) M r M' := by
  intro p l e s m args below meth c D g ad A H locs ls C hP hD hS hl
  exact lv_ishl C.1 C.2.1 hd  (h p l e s m args below meth c D g ad A H locs ls C hP hD hS hl)
theorem ev_ishr {Lay : List rf_Cell} {y : rf_Me} {pc : Nat} {L : List (Option Value)} {st : List Value} {M : rf_Mem} {r : Option Value} {M' : rf_Mem} {x z : Int32} (hd : decode y.2.1 pc = .ok (.ishr, 1)) (h : Ev Lay y (pc + 1) L (.int (x >>> (z &&& 31)) :: st) M r M') : Ev Lay y pc L (.int z :: .int x :: st) M r M' := by
  intro p l e s m args below meth c D g ad A H locs ls C hP hD hS hl
  exact lv_ishr C.1 C.2.1 hd  (h p l e s m args below meth c D g ad A H locs ls C hP hD hS hl)
theorem ev_iushr {Lay : List rf_Cell} {y : rf_Me} {pc : Nat} {L : List (Option Value)} {st : List Value} {M : rf_Mem} {r : Option Value} {M' : rf_Mem} {x z : Int32} (hd : decode y.2.1 pc = .ok (.iushr, 1)) (h : Ev Lay y (pc + 1) L (.int (x.toUInt32 >>> (z.toUInt32 &&& Int32.toUInt32 31)).toInt32 :: st) M r M') : Ev Lay y pc L (.int z :: .int x :: st) M r M' := by
  intro p l e s m args below meth c D g ad A H locs ls C hP hD hS hl
  exact lv_iushr C.1 C.2.1 hd rfl (h p l e s m args below meth c D g ad A H locs ls C hP hD hS hl)
theorem ev_i2l {Lay : List rf_Cell} {y : rf_Me} {pc : Nat} {L : List (Option Value)} {st : List Value} {M : rf_Mem} {r : Option Value} {M' : rf_Mem} {x : Int32} (hd : decode y.2.1 pc = .ok (.i2l, 1)) (h : Ev Lay y (pc + 1) L (.long x.toInt64 :: st) M r M') : Ev Lay y pc L (.int x :: st) M r M' := by
  intro p l e s m args below meth c D g ad A H locs ls C hP hD hS hl
  exact lv_i2l C.1 C.2.1 hd rfl (h p l e s m args below meth c D g ad A H locs ls C hP hD hS hl)
theorem ev_l2i {Lay : List rf_Cell} {y : rf_Me} {pc : Nat} {L : List (Option Value)} {st : List Value} {M : rf_Mem} {r : Option Value} {M' : rf_Mem} {x : Int64} (hd : decode y.2.1 pc = .ok (.l2i, 1)) (h : Ev Lay y (pc + 1) L (.int x.toInt32 :: st) M r M') : Ev Lay y pc L (.long x :: st) M r M' := by
  intro p l e s m args below meth c D g ad A H locs ls C hP hD hS hl
  exact lv_l2i C.1 C.2.1 hd rfl (h p l e s m args below meth c D g ad A H locs ls C hP hD hS hl)
theorem ev_ladd {Lay : List rf_Cell} {y : rf_Me} {pc : Nat} {L : List (Option Value)} {st : List Value} {M : rf_Mem} {r : Option Value} {M' : rf_Mem} {x z : Int64} (hd : decode y.2.1 pc = .ok (.ladd, 1)) (h : Ev Lay y (pc + 1) L (.long (x + z) :: st) M r M') : Ev Lay y pc L (.long z :: .long x :: st) M r M' := by
  intro p l e s m args below meth c D g ad A H locs ls C hP hD hS hl
  exact lv_ladd C.1 C.2.1 hd  (h p l e s m args below meth c D g ad A H locs ls C hP hD hS hl)
theorem ev_lmul {Lay : List rf_Cell} {y : rf_Me} {pc : Nat} {L : List (Option Value)} {st : List Value} {M : rf_Mem} {r : Option Value} {M' : rf_Mem} {x z : Int64} (hd : decode y.2.1 pc = .ok (.lmul, 1)) (h : Ev Lay y (pc + 1) L (.long (x * z) :: st) M r M') : Ev Lay y pc L (.long z :: .long x :: st) M r M' := by
  intro p l e s m args below meth c D g ad A H locs ls C hP hD hS hl
  exact lv_lmul C.1 C.2.1 hd  (h p l e s m args below meth c D g ad A H locs ls C hP hD hS hl)
theorem ev_land {Lay : List rf_Cell} {y : rf_Me} {pc : Nat} {L : List (Option Value)} {st : List Value} {M : rf_Mem} {r : Option Value} {M' : rf_Mem} {x z : Int64} (hd : decode y.2.1 pc = .ok (.land, 1)) (h : Ev Lay y (pc + 1) L (.long (x &&& z) :: st) M r M') : Ev Lay y pc L (.long z :: .long x :: st) M r M' := by
  intro p l e s m args below meth c D g ad A H locs ls C hP hD hS hl
  exact lv_land C.1 C.2.1 hd  (h p l e s m args below meth c D g ad A H locs ls C hP hD hS hl)
theorem ev_lrem {Lay : List rf_Cell} {y : rf_Me} {pc : Nat} {L : List (Option Value)} {st : List Value} {M : rf_Mem} {r : Option Value} {M' : rf_Mem} {x z : Int64} (hd : decode y.2.1 pc = .ok (.lrem, 1)) (hne : ¬ z = 0) (h : Ev Lay y (pc + 1) L (.long (x - x / z * z) :: st) M r M') : Ev Lay y pc L (.long z :: .long x :: st) M r M' := by
  intro p l e s m args below meth c D g ad A H locs ls C hP hD hS hl
  exact lv_lrem C.1 C.2.1 hd hne (h p l e s m args below meth c D g ad A H locs ls C hP hD hS hl)
theorem ev_lushr {Lay : List rf_Cell} {y : rf_Me} {pc : Nat} {L : List (Option Value)} {st : List Value} {M : rf_Mem} {r : Option Value} {M' : rf_Mem} {x : Int64} {z : Int32} (hd : decode y.2.1 pc = .ok (.lushr, 1)) (h : Ev Lay y (pc + 1) L (.long (x.toUInt64 >>> (z.toInt64.toUInt64 &&& Int64.toUInt64 63)).toInt64 :: st) M r M') : Ev Lay y pc L (.int z :: .long x :: st) M r M' := by
  intro p l e s m args below meth c D g ad A H locs ls C hP hD hS hl
  exact lv_lushr C.1 C.2.1 hd rfl (h p l e s m args below meth c D g ad A H locs ls C hP hD hS hl)
theorem ev_lshr {Lay : List rf_Cell} {y : rf_Me} {pc : Nat} {L : List (Option Value)} {st : List Value} {M : rf_Mem} {r : Option Value} {M' : rf_Mem} {x : Int64} {z : Int32} (hd : decode y.2.1 pc = .ok (.lshr, 1)) (h : Ev Lay y (pc + 1) L (.long (x >>> (z.toInt64 &&& 63)) :: st) M r M') : Ev Lay y pc L (.int z :: .long x :: st) M r M' := by
  intro p l e s m args below meth c D g ad A H locs ls C hP hD hS hl
  exact lv_lshr C.1 C.2.1 hd rfl (h p l e s m args below meth c D g ad A H locs ls C hP hD hS hl)
theorem ev_lcmp {Lay : List rf_Cell} {y : rf_Me} {pc : Nat} {L : List (Option Value)} {st : List Value} {M : rf_Mem} {r : Option Value} {M' : rf_Mem} {x z : Int64} (hd : decode y.2.1 pc = .ok (.lcmp, 1)) (h : Ev Lay y (pc + 1) L (.int (lg_cmp x z) :: st) M r M') : Ev Lay y pc L (.long z :: .long x :: st) M r M' := by
  intro p l e s m args below meth c D g ad A H locs ls C hP hD hS hl
  exact W.lcmp C.1 C.2.1 hd  (h p l e s m args below meth c D g ad A H locs ls C hP hD hS hl)
theorem ev_dup {Lay : List rf_Cell} {y : rf_Me} {pc : Nat} {L : List (Option Value)} {st : List Value} {M : rf_Mem} {r : Option Value} {M' : rf_Mem} {v : Value} (hd : decode y.2.1 pc = .ok (.dup, 1)) (hv : v.category = 1) (h : Ev Lay y (pc + 1) L (v :: v :: st) M r M') : Ev Lay y pc L (v :: st) M r M' := by
  intro p l e s m args below meth c D g ad A H locs ls C hP hD hS hl
  exact lv_dup C.1 C.2.1 hd ((rf_cv_cat ad v).trans hv) (h p l e s m args below meth c D g ad A H locs ls C hP hD hS hl)
theorem ev_pop {Lay : List rf_Cell} {y : rf_Me} {pc : Nat} {L : List (Option Value)} {st : List Value} {M : rf_Mem} {r : Option Value} {M' : rf_Mem} {v : Value} (hd : decode y.2.1 pc = .ok (.pop, 1)) (hv : v.category = 1) (h : Ev Lay y (pc + 1) L (st) M r M') : Ev Lay y pc L (v :: st) M r M' := by
  intro p l e s m args below meth c D g ad A H locs ls C hP hD hS hl
  exact lv_pop C.1 C.2.1 hd ((rf_cv_cat ad v).trans hv) (h p l e s m args below meth c D g ad A H locs ls C hP hD hS hl)
theorem ev_dup2 {Lay : List rf_Cell} {y : rf_Me} {pc : Nat} {L : List (Option Value)} {st : List Value} {M : rf_Mem} {r : Option Value} {M' : rf_Mem} {v u : Value} (hd : decode y.2.1 pc = .ok (.dup2, 1)) (hv : v.category = 1) (hu : u.category = 1) (h : Ev Lay y (pc + 1) L (v :: u :: v :: u :: st) M r M') : Ev Lay y pc L (v :: u :: st) M r M' := by
  intro p l e s m args below meth c D g ad A H locs ls C hP hD hS hl
  exact lv_dup2_11 C.1 C.2.1 hd ((rf_cv_cat ad v).trans hv) ((rf_cv_cat ad u).trans hu) (h p l e s m args below meth c D g ad A H locs ls C hP hD hS hl)
theorem ev_ldc {Lay : List rf_Cell} {y : rf_Me} {pc : Nat} {L : List (Option Value)} {st : List Value} {M : rf_Mem} {r : Option Value} {M' : rf_Mem} {idx : Nat} {v : Int32} (hd : decode y.2.1 pc = .ok (.ldc idx, 2)) (hw : Cond.constant y.1.cls idx v ∈ wsL_law) (h : Ev Lay y (pc + 2) L (.int v :: st) M r M') : Ev Lay y pc L st M r M' := by
  intro p l e s m args below meth c D g ad A H locs ls C hP hD hS hl
  exact lv_ldc C.1 C.2.1 C.2.2.2.2.2.1 (C.2.2.2.2.2.2.1 _ hw) hd (h p l e s m args below meth c D g ad A H locs ls C hP hD hS hl)
theorem ev_ldcw {Lay : List rf_Cell} {y : rf_Me} {pc : Nat} {L : List (Option Value)} {st : List Value} {M : rf_Mem} {r : Option Value} {M' : rf_Mem} {idx : Nat} {v : Int32} (hd : decode y.2.1 pc = .ok (.ldc_w idx, 3)) (hw : Cond.constant y.1.cls idx v ∈ wsL_law) (h : Ev Lay y (pc + 3) L (.int v :: st) M r M') : Ev Lay y pc L st M r M' := by
  intro p l e s m args below meth c D g ad A H locs ls C hP hD hS hl
  exact lv_ldcw C.1 C.2.1 C.2.2.2.2.2.1 (C.2.2.2.2.2.2.1 _ hw) hd (h p l e s m args below meth c D g ad A H locs ls C hP hD hS hl)
theorem ev_ldc2 {Lay : List rf_Cell} {y : rf_Me} {pc : Nat} {L : List (Option Value)} {st : List Value} {M : rf_Mem} {r : Option Value} {M' : rf_Mem} {idx : Nat} {v : Int64} (hd : decode y.2.1 pc = .ok (.ldc2_w idx, 3)) (hw : Cond.constantLong y.1.cls idx v ∈ wsL_law) (h : Ev Lay y (pc + 3) L (.long v :: st) M r M') : Ev Lay y pc L st M r M' := by
  intro p l e s m args below meth c D g ad A H locs ls C hP hD hS hl
  exact lv_ldc2 C.1 C.2.1 C.2.2.2.2.2.1 (C.2.2.2.2.2.2.1 _ hw) hd (h p l e s m args below meth c D g ad A H locs ls C hP hD hS hl)
theorem ev_ldcS {Lay : List rf_Cell} {y : rf_Me} {pc : Nat} {L : List (Option Value)} {st : List Value} {M : rf_Mem} {r : Option Value} {M' : rf_Mem} {idx j : Nat} {tx : String} (hd : decode y.2.1 pc = .ok (.ldc idx, 2)) (hy : y.1.cls = RX4) (hj : rf_sx[j]? = some (idx, tx)) (h : Ev Lay y (pc + 2) L (.ref (1000 + j) :: st) M r M') : Ev Lay y pc L st M r M' := by
  intro p l e s m args below meth c D g ad A H locs ls C hP hD hS hl
  exact va_ldcS C.1 C.2.1 (own := RX4) (hy ▸ C.2.2.2.2.2.1) (C.2.2.2.2.2.2.2.2.2.2.1 j _ hj) hd (h p l e s m args below meth c D g ad A H locs ls C hP hD hS hl)
theorem ev_istore {Lay : List rf_Cell} {y : rf_Me} {pc : Nat} {L : List (Option Value)} {st : List Value} {M : rf_Mem} {r : Option Value} {M' : rf_Mem} {i : Nat} {x : Int32} (hd : decode y.2.1 pc = .ok (.istore i, 2)) (hn : i < y.2.2.1) (ho : rf_okset L i = true) (h : Ev Lay y (pc + 2) (L.set i (some (.int x))) st M r M') : Ev Lay y pc L (.int x :: st) M r M' := by
  intro p l e s m args below meth c D g ad A H locs ls C hP hD hS hl
  exact lv_istore C.1 C.2.1 hd hl hn rfl (fun ls' hl' => (h p l e s m args below meth c D g ad A H locs ls' C hP hD hS (rf_lv_set hl' ho)))
theorem ev_istore_n {Lay : List rf_Cell} {y : rf_Me} {pc : Nat} {L : List (Option Value)} {st : List Value} {M : rf_Mem} {r : Option Value} {M' : rf_Mem} {k : Fin 4} {x : Int32} (hd : decode y.2.1 pc = .ok (.istore_n k, 1)) (hn : k.val < y.2.2.1) (ho : rf_okset L k.val = true) (h : Ev Lay y (pc + 1) (L.set k.val (some (.int x))) st M r M') : Ev Lay y pc L (.int x :: st) M r M' := by
  intro p l e s m args below meth c D g ad A H locs ls C hP hD hS hl
  exact lv_istore_n C.1 C.2.1 hd rfl hl hn rfl (fun ls' hl' => (h p l e s m args below meth c D g ad A H locs ls' C hP hD hS (rf_lv_set hl' ho)))
theorem ev_astore {Lay : List rf_Cell} {y : rf_Me} {pc : Nat} {L : List (Option Value)} {st : List Value} {M : rf_Mem} {r : Option Value} {M' : rf_Mem} {i : Nat} {x : Nat} (hd : decode y.2.1 pc = .ok (.astore i, 2)) (hn : i < y.2.2.1) (ho : rf_okset L i = true) (h : Ev Lay y (pc + 2) (L.set i (some (.ref x))) st M r M') : Ev Lay y pc L (.ref x :: st) M r M' := by
  intro p l e s m args below meth c D g ad A H locs ls C hP hD hS hl
  exact lv_astore C.1 C.2.1 hd hl hn rfl (fun ls' hl' => (h p l e s m args below meth c D g ad A H locs ls' C hP hD hS (rf_lv_set hl' ho)))
theorem ev_astore_n {Lay : List rf_Cell} {y : rf_Me} {pc : Nat} {L : List (Option Value)} {st : List Value} {M : rf_Mem} {r : Option Value} {M' : rf_Mem} {k : Fin 4} {x : Nat} (hd : decode y.2.1 pc = .ok (.astore_n k, 1)) (hn : k.val < y.2.2.1) (ho : rf_okset L k.val = true) (h : Ev Lay y (pc + 1) (L.set k.val (some (.ref x))) st M r M') : Ev Lay y pc L (.ref x :: st) M r M' := by
  intro p l e s m args below meth c D g ad A H locs ls C hP hD hS hl
  exact lv_astore_n C.1 C.2.1 hd rfl hl hn rfl (fun ls' hl' => (h p l e s m args below meth c D g ad A H locs ls' C hP hD hS (rf_lv_set hl' ho)))
theorem ev_iinc {Lay : List rf_Cell} {y : rf_Me} {pc : Nat} {L : List (Option Value)} {st : List Value} {M : rf_Mem} {r : Option Value} {M' : rf_Mem} {i : Nat} {n : Int} {x v : Int32} (hd : decode y.2.1 pc = .ok (.iinc i n, 3)) (hL : L[i]? = some (some (.int x))) (hv : Int32.ofInt n = v) (hn : i < y.2.2.1) (ho : rf_okset L i = true) (h : Ev Lay y (pc + 3) (L.set i (some (.int (x + v)))) st M r M') : Ev Lay y pc L st M r M' := by
  intro p l e s m args below meth c D g ad A H locs ls C hP hD hS hl
  have h3 := rf_lv_in ad L 0 i _ hL
  rw [Nat.zero_add] at h3
  obtain ⟨k, hk⟩ := List.getElem?_of_mem h3
  exact lv_iinc C.1 C.2.1 hd hl hk (by rw [hv]) hn rfl (fun ls' hl' => (h p l e s m args below meth c D g ad A H locs ls' C hP hD hS (rf_lv_set (v := .int (x + v)) hl' ho)))
theorem ev_if_eq {Lay : List rf_Cell} {y : rf_Me} {pc : Nat} {L : List (Option Value)} {st : List Value} {M : rf_Mem} {r : Option Value} {M' : rf_Mem} {x : Int32} {off : Int} (tgt : Nat) (hd : decode y.2.1 pc = .ok (.ifCond .eq off, 3)) (ht : (pc : Int) + off = (tgt : Int)) (h : x = 0 → Ev Lay y tgt L st M r M') (h2 : ¬ x = 0 → Ev Lay y (pc + 3) L st M r M') : Ev Lay y pc L (.int x :: st) M r M' := by
  intro p l e s m args below meth c D g ad A H locs ls C hP hD hS hl
  exact lv_if_eq C.1 C.2.1 hd ht (fun z9 => (h z9 p l e s m args below meth c D g ad A H locs ls C hP hD hS hl)) (fun z9 => (h2 z9 p l e s m args below meth c D g ad A H locs ls C hP hD hS hl))
theorem ev_icmp_eq {Lay : List rf_Cell} {y : rf_Me} {pc : Nat} {L : List (Option Value)} {st : List Value} {M : rf_Mem} {r : Option Value} {M' : rf_Mem} {x z : Int32} {off : Int} (tgt : Nat) (hd : decode y.2.1 pc = .ok (.if_icmp .eq off, 3)) (ht : (pc : Int) + off = (tgt : Int)) (h : x = z → Ev Lay y tgt L st M r M') (h2 : ¬ x = z → Ev Lay y (pc + 3) L st M r M') : Ev Lay y pc L (.int z :: .int x :: st) M r M' := by
  intro p l e s m args below meth c D g ad A H locs ls C hP hD hS hl
  exact lv_icmp_eq C.1 C.2.1 hd ht (fun z9 => (h z9 p l e s m args below meth c D g ad A H locs ls C hP hD hS hl)) (fun z9 => (h2 z9 p l e s m args below meth c D g ad A H locs ls C hP hD hS hl))
theorem ev_if_ne {Lay : List rf_Cell} {y : rf_Me} {pc : Nat} {L : List (Option Value)} {st : List Value} {M : rf_Mem} {r : Option Value} {M' : rf_Mem} {x : Int32} {off : Int} (tgt : Nat) (hd : decode y.2.1 pc = .ok (.ifCond .ne off, 3)) (ht : (pc : Int) + off = (tgt : Int)) (h : ¬ x = 0 → Ev Lay y tgt L st M r M') (h2 : x = 0 → Ev Lay y (pc + 3) L st M r M') : Ev Lay y pc L (.int x :: st) M r M' := by
  intro p l e s m args below meth c D g ad A H locs ls C hP hD hS hl
  exact lv_if_ne C.1 C.2.1 hd ht (fun z9 => (h z9 p l e s m args below meth c D g ad A H locs ls C hP hD hS hl)) (fun z9 => (h2 z9 p l e s m args below meth c D g ad A H locs ls C hP hD hS hl))
theorem ev_icmp_ne {Lay : List rf_Cell} {y : rf_Me} {pc : Nat} {L : List (Option Value)} {st : List Value} {M : rf_Mem} {r : Option Value} {M' : rf_Mem} {x z : Int32} {off : Int} (tgt : Nat) (hd : decode y.2.1 pc = .ok (.if_icmp .ne off, 3)) (ht : (pc : Int) + off = (tgt : Int)) (h : ¬ x = z → Ev Lay y tgt L st M r M') (h2 : x = z → Ev Lay y (pc + 3) L st M r M') : Ev Lay y pc L (.int z :: .int x :: st) M r M' := by
  intro p l e s m args below meth c D g ad A H locs ls C hP hD hS hl
  exact lv_icmp_ne C.1 C.2.1 hd ht (fun z9 => (h z9 p l e s m args below meth c D g ad A H locs ls C hP hD hS hl)) (fun z9 => (h2 z9 p l e s m args below meth c D g ad A H locs ls C hP hD hS hl))
theorem ev_if_lt {Lay : List rf_Cell} {y : rf_Me} {pc : Nat} {L : List (Option Value)} {st : List Value} {M : rf_Mem} {r : Option Value} {M' : rf_Mem} {x : Int32} {off : Int} (tgt : Nat) (hd : decode y.2.1 pc = .ok (.ifCond .lt off, 3)) (ht : (pc : Int) + off = (tgt : Int)) (h : x < 0 → Ev Lay y tgt L st M r M') (h2 : ¬ x < 0 → Ev Lay y (pc + 3) L st M r M') : Ev Lay y pc L (.int x :: st) M r M' := by
  intro p l e s m args below meth c D g ad A H locs ls C hP hD hS hl
  exact lv_if_lt C.1 C.2.1 hd ht (fun z9 => (h z9 p l e s m args below meth c D g ad A H locs ls C hP hD hS hl)) (fun z9 => (h2 z9 p l e s m args below meth c D g ad A H locs ls C hP hD hS hl))
theorem ev_icmp_lt {Lay : List rf_Cell} {y : rf_Me} {pc : Nat} {L : List (Option Value)} {st : List Value} {M : rf_Mem} {r : Option Value} {M' : rf_Mem} {x z : Int32} {off : Int} (tgt : Nat) (hd : decode y.2.1 pc = .ok (.if_icmp .lt off, 3)) (ht : (pc : Int) + off = (tgt : Int)) (h : x < z → Ev Lay y tgt L st M r M') (h2 : ¬ x < z → Ev Lay y (pc + 3) L st M r M') : Ev Lay y pc L (.int z :: .int x :: st) M r M' := by
  intro p l e s m args below meth c D g ad A H locs ls C hP hD hS hl
  exact lv_icmp_lt C.1 C.2.1 hd ht (fun z9 => (h z9 p l e s m args below meth c D g ad A H locs ls C hP hD hS hl)) (fun z9 => (h2 z9 p l e s m args below meth c D g ad A H locs ls C hP hD hS hl))
theorem ev_if_ge {Lay : List rf_Cell} {y : rf_Me} {pc : Nat} {L : List (Option Value)} {st : List Value} {M : rf_Mem} {r : Option Value} {M' : rf_Mem} {x : Int32} {off : Int} (tgt : Nat) (hd : decode y.2.1 pc = .ok (.ifCond .ge off, 3)) (ht : (pc : Int) + off = (tgt : Int)) (h : 0 ≤ x → Ev Lay y tgt L st M r M') (h2 : ¬ 0 ≤ x → Ev Lay y (pc + 3) L st M r M') : Ev Lay y pc L (.int x :: st) M r M' := by
  intro p l e s m args below meth c D g ad A H locs ls C hP hD hS hl
  exact lv_if_ge C.1 C.2.1 hd ht (fun z9 => (h z9 p l e s m args below meth c D g ad A H locs ls C hP hD hS hl)) (fun z9 => (h2 z9 p l e s m args below meth c D g ad A H locs ls C hP hD hS hl))
theorem ev_icmp_ge {Lay : List rf_Cell} {y : rf_Me} {pc : Nat} {L : List (Option Value)} {st : List Value} {M : rf_Mem} {r : Option Value} {M' : rf_Mem} {x z : Int32} {off : Int} (tgt : Nat) (hd : decode y.2.1 pc = .ok (.if_icmp .ge off, 3)) (ht : (pc : Int) + off = (tgt : Int)) (h : z ≤ x → Ev Lay y tgt L st M r M') (h2 : ¬ z ≤ x → Ev Lay y (pc + 3) L st M r M') : Ev Lay y pc L (.int z :: .int x :: st) M r M' := by
  intro p l e s m args below meth c D g ad A H locs ls C hP hD hS hl
  exact lv_icmp_ge C.1 C.2.1 hd ht (fun z9 => (h z9 p l e s m args below meth c D g ad A H locs ls C hP hD hS hl)) (fun z9 => (h2 z9 p l e s m args below meth c D g ad A H locs ls C hP hD hS hl))
theorem ev_if_gt {Lay : List rf_Cell} {y : rf_Me} {pc : Nat} {L : List (Option Value)} {st : List Value} {M : rf_Mem} {r : Option Value} {M' : rf_Mem} {x : Int32} {off : Int} (tgt : Nat) (hd : decode y.2.1 pc = .ok (.ifCond .gt off, 3)) (ht : (pc : Int) + off = (tgt : Int)) (h : 0 < x → Ev Lay y tgt L st M r M') (h2 : ¬ 0 < x → Ev Lay y (pc + 3) L st M r M') : Ev Lay y pc L (.int x :: st) M r M' := by
  intro p l e s m args below meth c D g ad A H locs ls C hP hD hS hl
  exact lv_if_gt C.1 C.2.1 hd ht (fun z9 => (h z9 p l e s m args below meth c D g ad A H locs ls C hP hD hS hl)) (fun z9 => (h2 z9 p l e s m args below meth c D g ad A H locs ls C hP hD hS hl))
theorem ev_icmp_gt {Lay : List rf_Cell} {y : rf_Me} {pc : Nat} {L : List (Option Value)} {st : List Value} {M : rf_Mem} {r : Option Value} {M' : rf_Mem} {x z : Int32} {off : Int} (tgt : Nat) (hd : decode y.2.1 pc = .ok (.if_icmp .gt off, 3)) (ht : (pc : Int) + off = (tgt : Int)) (h : z < x → Ev Lay y tgt L st M r M') (h2 : ¬ z < x → Ev Lay y (pc + 3) L st M r M') : Ev Lay y pc L (.int z :: .int x :: st) M r M' := by
  intro p l e s m args below meth c D g ad A H locs ls C hP hD hS hl
  exact lv_icmp_gt C.1 C.2.1 hd ht (fun z9 => (h z9 p l e s m args below meth c D g ad A H locs ls C hP hD hS hl)) (fun z9 => (h2 z9 p l e s m args below meth c D g ad A H locs ls C hP hD hS hl))
theorem ev_if_le {Lay : List rf_Cell} {y : rf_Me} {pc : Nat} {L : List (Option Value)} {st : List Value} {M : rf_Mem} {r : Option Value} {M' : rf_Mem} {x : Int32} {off : Int} (tgt : Nat) (hd : decode y.2.1 pc = .ok (.ifCond .le off, 3)) (ht : (pc : Int) + off = (tgt : Int)) (h : x ≤ 0 → Ev Lay y tgt L st M r M') (h2 : ¬ x ≤ 0 → Ev Lay y (pc + 3) L st M r M') : Ev Lay y pc L (.int x :: st) M r M' := by
  intro p l e s m args below meth c D g ad A H locs ls C hP hD hS hl
  exact lv_if_le C.1 C.2.1 hd ht (fun z9 => (h z9 p l e s m args below meth c D g ad A H locs ls C hP hD hS hl)) (fun z9 => (h2 z9 p l e s m args below meth c D g ad A H locs ls C hP hD hS hl))
theorem ev_icmp_le {Lay : List rf_Cell} {y : rf_Me} {pc : Nat} {L : List (Option Value)} {st : List Value} {M : rf_Mem} {r : Option Value} {M' : rf_Mem} {x z : Int32} {off : Int} (tgt : Nat) (hd : decode y.2.1 pc = .ok (.if_icmp .le off, 3)) (ht : (pc : Int) + off = (tgt : Int)) (h : x ≤ z → Ev Lay y tgt L st M r M') (h2 : ¬ x ≤ z → Ev Lay y (pc + 3) L st M r M') : Ev Lay y pc L (.int z :: .int x :: st) M r M' := by
  intro p l e s m args below meth c D g ad A H locs ls C hP hD hS hl
  exact lv_icmp_le C.1 C.2.1 hd ht (fun z9 => (h z9 p l e s m args below meth c D g ad A H locs ls C hP hD hS hl)) (fun z9 => (h2 z9 p l e s m args below meth c D g ad A H locs ls C hP hD hS hl))
theorem ev_goto {Lay : List rf_Cell} {y : rf_Me} {pc : Nat} {L : List (Option Value)} {st : List Value} {M : rf_Mem} {r : Option Value} {M' : rf_Mem} {off : Int} (tgt : Nat) (hd : decode y.2.1 pc = .ok (.goto off, 3)) (ht : (pc : Int) + off = (tgt : Int)) (h : Ev Lay y tgt L st M r M') : Ev Lay y pc L st M r M' := by
  intro p l e s m args below meth c D g ad A H locs ls C hP hD hS hl
  exact lv_goto C.1 C.2.1 hd ht (h p l e s m args below meth c D g ad A H locs ls C hP hD hS hl)
end
section
/-- a field's link: the class's number, the place -/
def rf_fl (own : String) (idx ci k : Nat) : Prop := ∃ (C : String) (T : u_T) (N : Nat), vwCl[ci]? = some (C, T, N) ∧ k < N ∧ Cond.fieldLink own idx (T k).1 (T k).2.1 (T k).2.2.1 ∈ wsL_law ∧ ∀ w ∈ u_ws C T N, w ∈ wsL_law
/-- the same for a write: not final, an int (or a boolean) -/
def rf_fp (own : String) (idx ci k : Nat) (ty : FieldType) : Prop := ∃ (C : String) (T : u_T) (N : Nat) (tt : Nat → FieldType), vwCl[ci]? = some (C, T, N) ∧ k < N ∧ Cond.fieldLink own idx (T k).1 (T k).2.1 (T k).2.2.1 ∈ wsL_law ∧ (∀ w ∈ u_ws C T N, w ∈ wsL_law) ∧ (∀ k, k < N → parseFieldDescriptor (T k).2.2.1 = some (tt k)) ∧ (∀ a, a < N → ∀ b, b < N → a ≠ b → (T a).2.1 ≠ (T b).2.1) ∧ (T k).2.2.2 = false ∧ tt k = ty
theorem ev_getI {Lay : List rf_Cell} {y : rf_Me} {pc : Nat} {L : List (Option Value)} {st : List Value} {M : rf_Mem} {r : Option Value} {M' : rf_Mem} {idx ci k q : Nat} {fl : List (Option Nat)} (hd : decode y.2.1 pc = .ok (.getfield idx, 3)) (hf : rf_fl y.1.cls idx ci k) (hq : Lay[q]? = some (.inl (ci, fl))) (hk : fl[k]? = some none) (h : Ev Lay y (pc + 3) L (.int (M q k) :: st) M r M') : Ev Lay y pc L (.ref q :: st) M r M' := by
  intro p l e s m args below meth c D g ad A H locs ls C hP hD hS hl
  obtain ⟨C1, T, N, h1, h2, h3, h4⟩ := hf
  have e1 := rf_W0 g ad M hq
  have e2 := rf_fs_get ad (M q) fl 0 k
  rw [hk, Nat.zero_add] at e2
  exact va_get (D := D) (ci := ci) (fs := rf_fs ad (M q) 0 fl) C.1 C.2.1 C.2.2.2.2.2.2.1 h4 C.2.2.2.2.2.1 C.2.2.2.2.2.2.2.1 hP q e1 h1 k h2 (C.2.2.2.2.2.2.1 _ h3) (fun _ z => z) e2 hd (h p l e s m args below meth c D g ad A H locs ls C hP hD hS hl)
theorem ev_getR {Lay : List rf_Cell} {y : rf_Me} {pc : Nat} {L : List (Option Value)} {st : List Value} {M : rf_Mem} {r : Option Value} {M' : rf_Mem} {idx ci k q c1 : Nat} {fl : List (Option Nat)} (hd : decode y.2.1 pc = .ok (.getfield idx, 3)) (hf : rf_fl y.1.cls idx ci k) (hq : Lay[q]? = some (.inl (ci, fl))) (hk : fl[k]? = some (some c1)) (h : Ev Lay y (pc + 3) L (.ref c1 :: st) M r M') : Ev Lay y pc L (.ref q :: st) M r M' := by
  intro p l e s m args below meth c D g ad A H locs ls C hP hD hS hl
  obtain ⟨C1, T, N, h1, h2, h3, h4⟩ := hf
  have e1 := rf_W0 g ad M hq
  have e2 := rf_fs_get ad (M q) fl 0 k
  rw [hk, Nat.zero_add] at e2
  exact va_get (D := D) (ci := ci) (fs := rf_fs ad (M q) 0 fl) C.1 C.2.1 C.2.2.2.2.2.2.1 h4 C.2.2.2.2.2.1 C.2.2.2.2.2.2.2.1 hP q e1 h1 k h2 (C.2.2.2.2.2.2.1 _ h3) (fun _ z => z) e2 hd (h p l e s m args below meth c D g ad A H locs ls C hP hD hS hl)
theorem ev_put {Lay : List rf_Cell} {y : rf_Me} {pc : Nat} {L : List (Option Value)} {st : List Value} {M : rf_Mem} {r : Option Value} {M' : rf_Mem} {idx ci k q : Nat} {ty : FieldType} {x : Int32} {fl : List (Option Nat)} (hd : decode y.2.1 pc = .ok (.putfield idx, 3)) (hf : rf_fp y.1.cls idx ci k ty) (hq : Lay[q]? = some (.inl (ci, fl))) (hk : fl[k]? = some none) (hn : narrow ty (.int x) = .int x) (hfit : fits ty (.int x) = true) (h : Ev Lay y (pc + 3) L st (rf_set M q k x) r M') : Ev Lay y pc L (.int x :: .ref q :: st) M r M' := by
  intro p l e s m args below meth c D g ad A H locs ls C hP hD hS hl
  obtain ⟨C1, T, N, tt, h1, h2, h3, h4, h5, h6, h7, h8⟩ := hf
  have e1 := rf_W0 g ad M hq
  have e3 := rf_S0 g ad M (upd (M q) k x) hq
  have e4 : rf_w g ad (rf_row M q (upd (M q) k x)) q (.inl (ci, fl)) = (ad q, .inr (ci, (rf_fs ad (M q) 0 fl).set k (.int x))) := by
    have e5 := rf_fs_set ad (M q) x fl 0 k hk
    rw [Nat.zero_add] at e5
    simp only [rf_w, rf_row_same, e5]
  rw [e4] at e3
  have hl2 : k < (rf_fs ad (M q) 0 fl).length := by
    have e2 := rf_fs_get ad (M q) fl 0 k
    rw [hk] at e2
    exact (List.getElem?_eq_some_iff.mp e2).1
  refine va_put (D := D) (ci := ci) (fs := rf_fs ad (M q) 0 fl) C.1 C.2.1 C.2.2.2.2.2.2.1 h4 tt h5 h6 C.2.2.2.2.2.1 C.2.2.2.2.2.2.2.1 hP hD hS q e1 h1 k h2 (C.2.2.2.2.2.2.1 _ h3) (fun _ z => z) h7 (ty := ty) (v := .int x) (by rw [h5 k h2, h8]) hn hfit hl2 hd (fun H1 locs1 hP1 hD1 hS1 => ?_)
  rw [e3] at hP1 hD1
  exact (h p l e s m args below meth c D g ad A H1 locs1 ls C hP1 hD1 hS1 hl)
theorem ev_iald {Lay : List rf_Cell} {y : rf_Me} {pc : Nat} {L : List (Option Value)} {st : List Value} {M : rf_Mem} {r : Option Value} {M' : rf_Mem} {q n : Nat} {i : Int32} (hd : decode y.2.1 pc = .ok (.iaload, 1)) (hq : Lay[q]? = some (.inr (.inl (n, 0)))) (hin : vp_in i n) (h : Ev Lay y (pc + 1) L (.int (M q i.toNatClampNeg) :: st) M r M') : Ev Lay y pc L (.int i :: .ref q :: st) M r M' := by
  intro p l e s m args below meth c D g ad A H locs ls C hP hD hS hl
  exact va_iald (D := D) C.1 C.2.1 C.2.2.2.2.2.2.2.1 hP q 0 (rf_W0 g ad M hq) rfl hin hd (h p l e s m args below meth c D g ad A H locs ls C hP hD hS hl)
theorem ev_zald {Lay : List rf_Cell} {y : rf_Me} {pc : Nat} {L : List (Option Value)} {st : List Value} {M : rf_Mem} {r : Option Value} {M' : rf_Mem} {q n : Nat} {i : Int32} (hd : decode y.2.1 pc = .ok (.baload, 1)) (hq : Lay[q]? = some (.inr (.inl (n, 1)))) (hin : vp_in i n) (h : Ev Lay y (pc + 1) L (.int (M q i.toNatClampNeg) :: st) M r M') : Ev Lay y pc L (.int i :: .ref q :: st) M r M' := by
  intro p l e s m args below meth c D g ad A H locs ls C hP hD hS hl
  exact va_zald (D := D) C.1 C.2.1 C.2.2.2.2.2.2.2.1 hP q 1 (rf_W0 g ad M hq) rfl hin hd (h p l e s m args below meth c D g ad A H locs ls C hP hD hS hl)
theorem ev_iast {Lay : List rf_Cell} {y : rf_Me} {pc : Nat} {L : List (Option Value)} {st : List Value} {M : rf_Mem} {r : Option Value} {M' : rf_Mem} {q n : Nat} {i x : Int32} (hd : decode y.2.1 pc = .ok (.iastore, 1)) (hq : Lay[q]? = some (.inr (.inl (n, 0)))) (hin : vp_in i n) (h : Ev Lay y (pc + 1) L st (rf_set M q i.toNatClampNeg x) r M') : Ev Lay y pc L (.int x :: .int i :: .ref q :: st) M r M' := by
  intro p l e s m args below meth c D g ad A H locs ls C hP hD hS hl
  have e3 := rf_S0 g ad M (upd (M q) i.toNatClampNeg x) hq
  have e4 : rf_w g ad (rf_row M q (upd (M q) i.toNatClampNeg x)) q (.inr (.inl (n, 0))) = (ad q, .inl (g.1, n, .inl (upd (M q) i.toNatClampNeg x))) := by
    simp only [rf_w, rf_row_same]
    rfl
  rw [e4] at e3
  refine va_iast (D := D) C.1 C.2.1 C.2.2.2.2.2.2.2.1 hP hD hS q 0 (rf_W0 g ad M hq) rfl hin hd (fun H1 locs1 hP1 hD1 hS1 => ?_)
  have hP1 : va_P D vwCl ((rf_W g ad M 0 Lay).set q (ad q, .inl (g.1, n, .inl (upd (M q) i.toNatClampNeg x)))) H1 := hP1
  have hD1 : va_D A ((rf_W g ad M 0 Lay).set q (ad q, .inl (g.1, n, .inl (upd (M q) i.toNatClampNeg x)))) := hD1
  rw [e3] at hP1 hD1
  exact (h p l e s m args below meth c D g ad A H1 locs1 ls C hP1 hD1 hS1 hl)
theorem ev_zast {Lay : List rf_Cell} {y : rf_Me} {pc : Nat} {L : List (Option Value)} {st : List Value} {M : rf_Mem} {r : Option Value} {M' : rf_Mem} {q n : Nat} {i x : Int32} (hd : decode y.2.1 pc = .ok (.bastore, 1)) (hq : Lay[q]? = some (.inr (.inl (n, 1)))) (hin : vp_in i n) (h : Ev Lay y (pc + 1) L st (rf_set M q i.toNatClampNeg (vp_nar .boolean x)) r M') : Ev Lay y pc L (.int x :: .int i :: .ref q :: st) M r M' := by
  intro p l e s m args below meth c D g ad A H locs ls C hP hD hS hl
  have e3 := rf_S0 g ad M (upd (M q) i.toNatClampNeg (vp_nar .boolean x)) hq
  have e4 : rf_w g ad (rf_row M q (upd (M q) i.toNatClampNeg (vp_nar .boolean x))) q (.inr (.inl (n, 1))) = (ad q, .inl (g.2.1, n, .inl (upd (M q) i.toNatClampNeg (vp_nar .boolean x)))) := by
    simp only [rf_w, rf_row_same]
    rfl
  rw [e4] at e3
  refine va_zast (D := D) C.1 C.2.1 C.2.2.2.2.2.2.2.1 hP hD hS q 1 (rf_W0 g ad M hq) rfl hin hd (fun H1 locs1 hP1 hD1 hS1 => ?_)
  have hP1 : va_P D vwCl ((rf_W g ad M 0 Lay).set q (ad q, .inl (g.2.1, n, .inl (upd (M q) i.toNatClampNeg (vp_nar .boolean x))))) H1 := hP1
  have hD1 : va_D A ((rf_W g ad M 0 Lay).set q (ad q, .inl (g.2.1, n, .inl (upd (M q) i.toNatClampNeg (vp_nar .boolean x))))) := hD1
  rw [e3] at hP1 hD1
  exact (h p l e s m args below meth c D g ad A H1 locs1 ls C hP1 hD1 hS1 hl)
theorem ev_alen {Lay : List rf_Cell} {y : rf_Me} {pc : Nat} {L : List (Option Value)} {st : List Value} {M : rf_Mem} {r : Option Value} {M' : rf_Mem} {q n : Nat} {v : Int32} (hd : decode y.2.1 pc = .ok (.arraylength, 1)) (hq : Lay[q]? = some (.inr (.inl (n, 0)))) (hv : Int32.ofNat n = v) (h : Ev Lay y (pc + 1) L (.int v :: st) M r M') : Ev Lay y pc L (.ref q :: st) M r M' := by
  intro p l e s m args below meth c D g ad A H locs ls C hP hD hS hl
  exact va_alen (D := D) C.1 C.2.1 C.2.2.2.2.2.2.2.1 hP q 0 (rf_W0 g ad M hq) rfl hv hd (h p l e s m args below meth c D g ad A H locs ls C hP hD hS hl)
theorem ev_aald {Lay : List rf_Cell} {y : rf_Me} {pc : Nat} {L : List (Option Value)} {st : List Value} {M : rf_Mem} {r : Option Value} {M' : rf_Mem} {q c1 : Nat} {cs : List Nat} {i : Int32} (hd : decode y.2.1 pc = .ok (.aaload, 1)) (hq : Lay[q]? = some (.inr (.inr cs))) (hin : vp_in i cs.length) (hc : cs[i.toNatClampNeg]? = some c1) (h : Ev Lay y (pc + 1) L (.ref c1 :: st) M r M') : Ev Lay y pc L (.int i :: .ref q :: st) M r M' := by
  intro p l e s m args below meth c D g ad A H locs ls C hP hD hS hl
  refine va_aldq (D := D) C.1 C.2.1 C.2.2.2.2.2.2.2.1 hP q 2 (rf_W0 g ad M hq) rfl hin hd ?_
  rw [hc]
  exact (h p l e s m args below meth c D g ad A H locs ls C hP hD hS hl)
theorem rf_cpw : Cond.native arraycopyName ∈ wsL_law ∧ Cond.static arraycopyName ∈ wsL_law ∧ Cond.initialized "java/lang/System" ∈ wsL_law := by decide +kernel
theorem ev_copy {Lay : List rf_Cell} {y : rf_Me} {pc : Nat} {L : List (Option Value)} {st : List Value} {M : rf_Mem} {r : Option Value} {M' : rf_Mem} {idx a b n0 n1 : Nat} {sp dp n : Int32} (hd : decode y.2.1 pc = .ok (.invokestatic idx, 3)) (hw1 : Cond.methodLink y.1.cls idx arraycopyName ∈ wsL_law) (ha : Lay[a]? = some (.inr (.inl (n0, 0)))) (hb : Lay[b]? = some (.inr (.inl (n1, 0)))) (h1 : ¬ sp < 0) (h2 : ¬ dp < 0) (h3 : ¬ n < 0) (h4 : sp.toNatClampNeg + n.toNatClampNeg ≤ n0) (h5 : dp.toNatClampNeg + n.toNatClampNeg ≤ n1)
    (hfr : 1 ≤ y.2.2.2.2.frames) (hlo : (st.map fun v => v.category).sum + (nativeFrameWords "java/lang/System" "arraycopy" 5 + 11) ≤ y.2.2.2.2.locals)
    (h : Ev Lay y (pc + 3) L st (rf_row M b (va_cpy (M a) (M b) sp.toNatClampNeg dp.toNatClampNeg n.toNatClampNeg)) r M') : Ev Lay y pc L (.int n :: .int dp :: .ref b :: .int sp :: .ref a :: st) M r M' := by
  intro p l e s m args below meth c D g ad A H locs ls C hP hD hS hl
  have e3 := rf_S0 g ad M (va_cpy (M a) (M b) sp.toNatClampNeg dp.toNatClampNeg n.toNatClampNeg) hb
  have e4 : rf_w g ad (rf_row M b (va_cpy (M a) (M b) sp.toNatClampNeg dp.toNatClampNeg n.toNatClampNeg)) b (.inr (.inl (n1, 0))) = (ad b, .inl (g.1, n1, .inl (va_cpy (M a) (M b) sp.toNatClampNeg dp.toNatClampNeg n.toNatClampNeg))) := by
    simp only [rf_w, rf_row_same]
    rfl
  rw [e4] at e3
  have hsum : ((st.map (rf_cv ad)).map fun v => v.category).sum = (st.map fun v => v.category).sum := by
    rw [List.map_map]
    congr 1
    exact List.map_congr_left (fun v _ => rf_cv_cat ad v)
  refine va_copyi (D := D) C.1 C.2.1 (C.2.2.2.2.1.trans hl.1.symm) C.2.2.2.2.2.1 (C.2.2.2.2.2.2.1 _ hw1) (C.2.2.2.2.2.2.1 _ (rf_cpw.1)) (C.2.2.2.2.2.2.1 _ (rf_cpw.2.1)) (C.2.2.2.2.2.2.1 _ (rf_cpw.2.2)) C.2.2.2.2.2.2.2.1 hP hD hS a b 0 0 (rf_W0 g ad M ha) (rf_W0 g ad M hb) rfl rfl rfl h1 h2 h3 h4 h5 (fun _ _ => rfl) hfr (by rw [hsum]; exact hlo) hd (fun H1 locs1 hP1 hD1 hS1 => ?_)
  have hP1 : va_P D vwCl ((rf_W g ad M 0 Lay).set b (ad b, .inl (g.1, n1, .inl (va_cpy (M a) (M b) sp.toNatClampNeg dp.toNatClampNeg n.toNatClampNeg)))) H1 := hP1
  have hD1 : va_D A ((rf_W g ad M 0 Lay).set b (ad b, .inl (g.1, n1, .inl (va_cpy (M a) (M b) sp.toNatClampNeg dp.toNatClampNeg n.toNatClampNeg)))) := hD1
  rw [e3] at hP1 hD1
  exact (h p l e s m args below meth c D g ad A H1 locs1 ls C hP1 hD1 hS1 hl)
theorem ev_iret {Lay : List rf_Cell} {y : rf_Me} {pc : Nat} {L : List (Option Value)} {st : List Value} {M : rf_Mem} {r : Option Value} {M' : rf_Mem} {x : Int32} {ty : FieldType} (hd : decode y.2.1 pc = .ok (.ireturn, 1)) (hr : y.2.2.2.1 = some ty) (hn : narrow ty (.int x) = .int x) : Ev Lay y pc L [.int x] M (some (.int x)) M := by
  intro p l e s m args below meth c D g ad A H locs ls C hP hD hS hl
  exact W.zret C.1 C.2.1 (C.2.2.1.trans hr) hn (fun t ht hW => ⟨⟨rfl, by rw [ht]; exact hP⟩, hS.F ht⟩) hS.2.2 hd C.2.2.2.1
theorem ev_vret {Lay : List rf_Cell} {y : rf_Me} {pc : Nat} {L : List (Option Value)} {st : List Value} {M : rf_Mem} {r : Option Value} {M' : rf_Mem} (hd : decode y.2.1 pc = .ok (.return_, 1)) (hr : y.2.2.2.1 = none) : Ev Lay y pc L [] M none M := by
  intro p l e s m args below meth c D g ad A H locs ls C hP hD hS hl
  exact W.vret C.1 C.2.1 (C.2.2.1.trans hr) (fun t ht hW => ⟨⟨rfl, by rw [ht]; exact hP⟩, hS.F ht⟩) hS.2.2 hd C.2.2.2.1
/-- behind a call -/
theorem rf_callW {p : Program} {l : Launch} {e : Env} {R : Room} {s : State} {m : MethodId} {args : Array Value} {below : List Frame} {meth : Method} {c : Code} {H : Heap} {locs : List Loc} {Q : State → Prop} {pc : Nat} {ls : Array Slot} {st0 rest : List Value} {a : Array Value} {D : va_G} {g : rf_G} {ad : Nat → Nat} {A A1 : Nat → Prop} {Lay : List rf_Cell} {r1 : Option Value} {M1 : rf_Mem}
    (hr : va_Run p l e R s m args below meth c H locs 0 0 0 0 (F0 m pc ls st0) rest (rf_Q D g ad A1 Lay r1 M1 a) A1) (hS : va_S A s.heap H locs) (hA : ∀ q, A1 q → A q)
    (kk : ∀ (H1 : Heap) (locs1 : List Loc), va_P D vwCl (rf_W g ad M1 0 Lay) H1 → va_S A s.heap H1 locs1 → W p l e R s m args below meth c H1 locs1 0 0 Q (F0 m (pc + 3) ls ((r1.map (rf_cv ad)).toList ++ rest))) : W p l e R s m args below meth c H locs 0 0 Q (F0 m pc ls st0) := by
  intro T hT X
  obtain ⟨v, st₀, t, T', L, h0, X', hL, e1, e2, ⟨⟨hv, hp⟩, hz, hk⟩, st⟩ := hr T hT X
  cases hv
  rw [h0] at hz hk
  obtain ⟨t2, a1, b1⟩ := kk T'.heap (locs ++ L) (by rw [e1]; exact hp)
    ⟨Nat.le_trans hS.1 (by rw [e1]; exact hz), fun q h1 h2 => by rw [e1, hk q (Nat.lt_of_lt_of_le h1 hS.1) (fun z => h2 (hA q z))]; exact hS.2.1 q h1 h2, fun q hq => by
      rcases List.mem_append.mp hq with h | h
      · exact hS.2.2 q h
      · exact hA _ (hL q h)⟩ T' rfl X'
  exact ⟨t2, st t2 a1, b1⟩
/-- what a callee must be: n parameters beside the receiver -/
def rf_ce (y : rf_Me) (n : Nat) : Prop := plainName y.1.cls = true ∧ Cond.code y.1 y.2.1 y.2.2.1 y.2.2.2.1 ∈ wsL_law ∧ Cond.initialized y.1.cls ∈ wsL_law ∧ (y.1.cls ≠ "java/lang/invoke/MethodHandle" ∧ y.1.cls ≠ "java/lang/invoke/VarHandle" ∧ (parseMethodDescriptor y.1.desc).map (fun d => d.parameters.length) = some n) ∧ y.2.2.2.2.cells = 0 ∧ y.2.2.2.2.slots = 0
def rf_ceV (y : rf_Me) (n ci : Nat) : Prop := rf_ce y n ∧ Cond.instanceMethod y.1 ∈ wsL_law ∧ Cond.selects y.1.cls y.1 y.1 ∈ wsL_law ∧ ∃ q : vw_C, vwCl[ci]? = some q ∧ q.1 = y.1.cls
def rf_ceS (y : rf_Me) (n : Nat) : Prop := rf_ce y n ∧ Cond.static y.1 ∈ wsL_law
def rf_rm (y z : rf_Me) : Prop := z.2.2.2.2.frames + 1 ≤ y.2.2.2.2.frames ∧ 8 + (z.2.2.1 + 11) + z.2.2.2.2.locals ≤ y.2.2.2.2.locals
theorem rf_good {z : rf_Me} (h : Cond.code z.1 z.2.1 z.2.2.1 z.2.2.2.1 ∈ wsL_law) : GoodIn wsL_law (rf_ws z) := by
  intro w hw
  rcases List.mem_cons.mp hw with e | e
  · rw [e]; exact wsL_self _ h
  · exact wsL_self _ e
theorem rf_cat (ad : Nat → Nat) (st : List Value) : ((st.map (rf_cv ad)).map fun v => v.category).sum = (st.map fun v => v.category).sum := by
  rw [List.map_map]
  congr 1
  exact List.map_congr_left (fun v _ => rf_cv_cat ad v)
theorem rf_blind {D : va_G} {g : rf_G} {ad : Nat → Nat} {Lay : List rf_Cell} {M : rf_Mem} {sz : Nat} {av : List Value} : FrameBlind (rf_Pre D g ad Lay M sz av) := fun a U f mk q => by
  obtain ⟨q0, q1, qP, qK, qD, qX⟩ := q
  exact ⟨q0, q1, qP, va_K.moved (u := U) (U := U.calling f mk a) (Vm.Alike.refl U.vm) qK, qD, rf_X.same (u := U) (U := U.calling f mk a) rfl qX⟩
/-- the callee's start -/
theorem rf_start {y : rf_Me} {p : Program} {s : State} {m : MethodId} {args : Array Value} {meth : Method} {c : Code} {D : va_G} {g : rf_G} {ad : Nat → Nat} {A : Nat → Prop} {H : Heap} {locs : List Loc} {Lay : List rf_Cell} {M : rf_Mem} (C : rf_cx y p s m args meth c D g ad A) (hP : va_P D vwCl (rf_W g ad M 0 Lay) H) (hD : va_D A (rf_W g ad M 0 Lay)) (hS : va_S A s.heap H locs) (av : List Value) :
    (∀ q, va_A (rf_W g ad M 0 Lay) H.size q → A q) ∧ ∀ U : State, U.heap = H → s.WarmedH U.vm → rf_Pre D g ad Lay M H.size av (av.map (rf_cv ad)).toArray U := by
  have hA : ∀ q, va_A (rf_W g ad M 0 Lay) H.size q → A q := by
    intro q h
    rcases h with ⟨k, e, h⟩ | h
    · exact hD.2 k _ h
    · exact C.2.2.2.2.2.2.2.2.1 q (Nat.le_trans hS.1 h)
  refine ⟨hA, fun U hU hW => ⟨rfl, by rw [hU], by rw [hU]; exact hP, va_K.moved hW.alike C.2.2.2.2.2.2.2.1, hD.weaken (fun _ _ _ _ => trivial), ?_⟩⟩
  rw [hU]
  exact (((C.2.2.2.2.2.2.2.2.2).kept hS.2.1).narrow hA).warm hW
theorem ev_callV {Lay : List rf_Cell} {y : rf_Me} {pc : Nat} {L : List (Option Value)} {st : List Value} {M : rf_Mem} {r : Option Value} {M' : rf_Mem} {y' : rf_Me} {idx n ci q : Nat} {fl : List (Option Nat)} {stk : List Value} {r1 : Option Value} {M1 : rf_Mem} (av : List Value) (hd : decode y.2.1 pc = .ok (.invokevirtual idx, 3)) (hs : stk = av.reverse ++ .ref q :: st) (hc : rf_ceV y' n ci) (hw : Cond.methodLink y.1.cls idx y'.1 ∈ wsL_law) (hrm : rf_rm y y') (hq : Lay[q]? = some (.inl (ci, fl))) (hn : av.length = n) (hst : (st.map fun v => v.category).sum ≤ 8) (hent : (rf_sl (.ref q :: av)).length ≤ y'.2.2.1)
    (hb : Ev Lay y' 0 (rf_ent y'.2.2.1 (.ref q :: av)) [] M r1 M1) (h : Ev Lay y (pc + 3) L (r1.toList ++ st) M1 r M') : Ev Lay y pc L stk M r M' := by
  intro p l e s m args below meth c D g ad A H locs ls C hP hD hS hl
  obtain ⟨⟨g1, g2, g3, g4, g5, g6⟩, g7, g8, qc, g9, g10⟩ := hc
  have hts := C.2.2.2.2.2.2.1
  obtain ⟨hA, hst0⟩ := rf_start C hP hD hS (.ref q :: av)
  have hM := rf_met g1 hent hb l D g ad H.size
  have cw : CallW y.2.2.2.2 s args y.1.cls y'.1.cls idx y'.1 y'.2.1 y'.2.2.1 y'.2.2.2.1 (rf_ws y') y'.2.2.2.2 0 0 n := ⟨callB_of n hts (rf_good g2) rfl g5 g6 (hts _ g3) (hts _ hw) g4 hrm, hts _ g7, hts _ g8⟩
  have hrv : ∃ cellB : Cell, H[ad q]? = some cellB ∧ cellB.vm.isStatics = false ∧ s.vm.findClass y'.1.cls = some cellB.cls := by
    have e := va_recv C.2.2.2.2.2.2.2.1 hP (ci := ci) (q0 := q) g9 (rf_W0 g ad M hq)
    rw [← g10]
    exact e
  refine rf_callW (va_runV (As := av.map (rf_cv ad)) (rest := st.map (rf_cv ad)) ⟨C.1, C.2.1, C.2.2.2.2.1, C.2.2.2.2.2.1, hts⟩ hM cw ⟨rf_blind, hrv, hst0⟩ rfl (by rw [List.length_map]; exact hn) hl.1 (by rw [hs]; simp [List.map_reverse, rf_cv]) (lv_room (by rw [rf_cat]; exact hst)) hd ⟨by rw [Nat.zero_add]; exact Nat.zero_le _, by rw [Nat.zero_add]; exact Nat.zero_le _⟩) hS hA (fun H1 locs1 hP1 hS1 => ?_)
  have h9 := h p l e s m args below meth c D g ad A H1 locs1 ls C hP1 (rf_D hD) hS1 hl
  cases r1 with
  | none => exact h9
  | some v => exact h9
theorem ev_callS {Lay : List rf_Cell} {y : rf_Me} {pc : Nat} {L : List (Option Value)} {st : List Value} {M : rf_Mem} {r : Option Value} {M' : rf_Mem} {y' : rf_Me} {idx n : Nat} {stk : List Value} {r1 : Option Value} {M1 : rf_Mem} (av : List Value) (hd : decode y.2.1 pc = .ok (.invokestatic idx, 3)) (hs : stk = av.reverse ++ st) (hc : rf_ceS y' n) (hw : Cond.methodLink y.1.cls idx y'.1 ∈ wsL_law) (hrm : rf_rm y y') (hn : av.length = n) (hst : (st.map fun v => v.category).sum ≤ 8) (hent : (rf_sl av).length ≤ y'.2.2.1)
    (hb : Ev Lay y' 0 (rf_ent y'.2.2.1 av) [] M r1 M1) (h : Ev Lay y (pc + 3) L (r1.toList ++ st) M1 r M') : Ev Lay y pc L stk M r M' := by
  intro p l e s m args below meth c D g ad A H locs ls C hP hD hS hl
  obtain ⟨⟨g1, g2, g3, g4, g5, g6⟩, g7⟩ := hc
  have hts := C.2.2.2.2.2.2.1
  obtain ⟨hA, hst0⟩ := rf_start C hP hD hS av
  have hM := rf_met g1 hent hb l D g ad H.size
  have cw : CallB y.2.2.2.2 s args y.1.cls idx y'.1 y'.2.1 y'.2.2.1 y'.2.2.2.1 (rf_ws y') y'.2.2.2.2 0 0 n ∧ (Cond.static y'.1).before args s = true := ⟨callB_of n hts (rf_good g2) rfl g5 g6 (hts _ g3) (hts _ hw) g4 hrm, hts _ g7⟩
  refine rf_callW (va_runS (As := av.map (rf_cv ad)) (rest := st.map (rf_cv ad)) ⟨C.1, C.2.1, C.2.2.2.2.1, C.2.2.2.2.2.1, hts⟩ hM cw ⟨rf_blind, hst0⟩ rfl (by rw [List.length_map]; exact hn) hl.1 (by rw [hs]; simp [List.map_reverse]) (lv_room (by rw [rf_cat]; exact hst)) hd ⟨by rw [Nat.zero_add]; exact Nat.zero_le _, by rw [Nat.zero_add]; exact Nat.zero_le _⟩) hS hA (fun H1 locs1 hP1 hS1 => ?_)
  have h9 := h p l e s m args below meth c D g ad A H1 locs1 ls C hP1 (rf_D hD) hS1 hl
  cases r1 with
  | none => exact h9
  | some v => exact h9
/-- the nest's one call: has, out of Requests -/
theorem ev_callN {Lay : List rf_Cell} {y : rf_Me} {pc : Nat} {L : List (Option Value)} {st : List Value} {M : rf_Mem} {r : Option Value} {M' : rf_Mem} {y' : rf_Me} {n : Nat} {stk : List Value} {r1 : Option Value} {M1 : rf_Mem} (av : List Value) (hd : decode y.2.1 pc = .ok (.invokestatic 26, 3)) (hs : stk = av.reverse ++ st) (hc : rf_ceS y' n) (hy : y.1.cls = RX3) (hy' : y'.1 = yX6_has) (hrm : rf_rm y y') (hn : av.length = n) (hst : (st.map fun v => v.category).sum ≤ 8) (hent : (rf_sl av).length ≤ y'.2.2.1)
    (hb : Ev Lay y' 0 (rf_ent y'.2.2.1 av) [] M r1 M1) (h : Ev Lay y (pc + 3) L (r1.toList ++ st) M1 r M') : Ev Lay y pc L stk M r M' := by
  intro p l e s m args below meth c D g ad A H locs ls C hP hD hS hl
  obtain ⟨⟨g1, g2, g3, g4, g5, g6⟩, g7⟩ := hc
  have hts := C.2.2.2.2.2.2.1
  obtain ⟨hA, hst0⟩ := rf_start C hP hD hS av
  have hM := rf_met g1 hent hb l D g ad H.size
  have hN : va_Nw (.methodLinkNest RX3 26 y'.1 RX6) s := by rw [hy']; exact C.2.2.2.2.2.2.2.2.2.1
  have cw : va_CN y.2.2.2.2 s args RX3 26 y'.1 RX6 y'.2.1 y'.2.2.1 y'.2.2.2.1 (rf_ws y') y'.2.2.2.2 0 0 n ∧ (Cond.static y'.1).before args s = true ∧ True := ⟨va_cnB n hts (rf_good g2) rfl g5 g6 hN (hts _ g3) g4 hrm, hts _ g7, trivial⟩
  refine rf_callW (va_runSN (As := av.map (rf_cv ad)) (rest := st.map (rf_cv ad)) ⟨C.1, C.2.1, C.2.2.2.2.1, hy ▸ C.2.2.2.2.2.1, hts⟩ hM cw ⟨rf_blind, hst0⟩ rfl (by rw [List.length_map]; exact hn) hl.1 (by rw [hs]; simp [List.map_reverse]) (lv_room (by rw [rf_cat]; exact hst)) hd ⟨by rw [Nat.zero_add]; exact Nat.zero_le _, by rw [Nat.zero_add]; exact Nat.zero_le _⟩) hS hA (fun H1 locs1 hP1 hS1 => ?_)
  have h9 := h p l e s m args below meth c D g ad A H1 locs1 ls C hP1 (rf_D hD) hS1 hl
  cases r1 with
  | none => exact h9
  | some v => exact h9
theorem ev_tabI {Lay : List rf_Cell} {y : rf_Me} {pc : Nat} {L : List (Option Value)} {st : List Value} {M : rf_Mem} {r : Option Value} {M' : rf_Mem} {dflt lo hi off : Int} {offs : Array Int} {len : Nat} {x : Int32} (tgt : Nat) (hd : decode y.2.1 pc = .ok (.tableswitch dflt lo hi offs, len)) (h1 : ¬ x.toInt < lo) (h2 : ¬ hi < x.toInt) (ho : offs[(x.toInt - lo).toNat]? = some off) (ht : (pc : Int) + off = (tgt : Int)) (h : Ev Lay y tgt L st M r M') : Ev Lay y pc L (.int x :: st) M r M' := by
  intro p l e s m args below meth c D g ad A H locs ls C hP hD hS hl
  exact lv_tableIn C.1 C.2.1 hd h1 h2 ho ht (h p l e s m args below meth c D g ad A H locs ls C hP hD hS hl)
theorem ev_tabO {Lay : List rf_Cell} {y : rf_Me} {pc : Nat} {L : List (Option Value)} {st : List Value} {M : rf_Mem} {r : Option Value} {M' : rf_Mem} {dflt lo hi : Int} {offs : Array Int} {len : Nat} {x : Int32} (tgt : Nat) (hd : decode y.2.1 pc = .ok (.tableswitch dflt lo hi offs, len)) (h1 : x.toInt < lo ∨ hi < x.toInt) (ht : (pc : Int) + dflt = (tgt : Int)) (h : Ev Lay y tgt L st M r M') : Ev Lay y pc L (.int x :: st) M r M' := by
  intro p l e s m args below meth c D g ad A H locs ls C hP hD hS hl
  exact lv_tableOut C.1 C.2.1 hd h1 ht (h p l e s m args below meth c D g ad A H locs ls C hP hD hS hl)
theorem ev_look {Lay : List rf_Cell} {y : rf_Me} {pc : Nat} {L : List (Option Value)} {st : List Value} {M : rf_Mem} {r : Option Value} {M' : rf_Mem} {dflt off : Int} {ps : Array (Int × Int)} {len : Nat} {x : Int32} (tgt : Nat) (hd : decode y.2.1 pc = .ok (.lookupswitch dflt ps, len)) (hp : (ps.toList.zip (ps.toList.drop 1)).all (fun (a, next) => a.1 < next.1) = true) (ho : Op.lookupswitch.offset ps.toList dflt x.toInt = off) (ht : (pc : Int) + off = (tgt : Int)) (h : Ev Lay y tgt L st M r M') : Ev Lay y pc L (.int x :: st) M r M' := by
  intro p l e s m args below meth c D g ad A H locs ls C hP hD hS hl
  exact lv_lookup C.1 C.2.1 hd hp ho ht (h p l e s m args below meth c D g ad A H locs ls C hP hD hS hl)
end
section
theorem iw_1 : ∀ w ∈ wsL_law_r1, w ∈ wsL_law := fun _ h => List.mem_append_left _ (List.mem_append_left _ (List.mem_append_left _ (List.mem_append_left _ (List.mem_append_left _ (List.mem_append_left _ (List.mem_append_left _ (List.mem_append_left _ (List.mem_append_left _ (List.mem_append_left _ h)))))))))
theorem iw_2 : ∀ w ∈ wsL_law_r2, w ∈ wsL_law := fun _ h => List.mem_append_left _ (List.mem_append_left _ (List.mem_append_left _ (List.mem_append_left _ (List.mem_append_left _ (List.mem_append_left _ (List.mem_append_left _ (List.mem_append_left _ (List.mem_append_left _ (List.mem_append_right _ (List.mem_append_left _ h))))))))))
theorem iw_3 : ∀ w ∈ wsL_law_r3, w ∈ wsL_law := fun _ h => List.mem_append_left _ (List.mem_append_left _ (List.mem_append_left _ (List.mem_append_left _ (List.mem_append_left _ (List.mem_append_left _ (List.mem_append_left _ (List.mem_append_left _ (List.mem_append_left _ (List.mem_append_right _ (List.mem_append_right _ (List.mem_append_left _ h)))))))))))
theorem iw_4 : ∀ w ∈ wsL_law_r4, w ∈ wsL_law := fun _ h => List.mem_append_left _ (List.mem_append_left _ (List.mem_append_left _ (List.mem_append_left _ (List.mem_append_left _ (List.mem_append_left _ (List.mem_append_left _ (List.mem_append_left _ (List.mem_append_left _ (List.mem_append_right _ (List.mem_append_right _ (List.mem_append_right _ (List.mem_append_left _ h))))))))))))
theorem iw_5 : ∀ w ∈ wsL_law_r5, w ∈ wsL_law := fun _ h => List.mem_append_left _ (List.mem_append_left _ (List.mem_append_left _ (List.mem_append_left _ (List.mem_append_left _ (List.mem_append_left _ (List.mem_append_left _ (List.mem_append_left _ (List.mem_append_left _ (List.mem_append_right _ (List.mem_append_right _ (List.mem_append_right _ (List.mem_append_right _ (List.mem_append_left _ h)))))))))))))
theorem iw_6 : ∀ w ∈ wsL_law_r6, w ∈ wsL_law := fun _ h => List.mem_append_left _ (List.mem_append_left _ (List.mem_append_left _ (List.mem_append_left _ (List.mem_append_left _ (List.mem_append_left _ (List.mem_append_left _ (List.mem_append_left _ (List.mem_append_left _ (List.mem_append_right _ (List.mem_append_right _ (List.mem_append_right _ (List.mem_append_right _ (List.mem_append_right _ (List.mem_append_left _ h))))))))))))))
theorem iw_7 : ∀ w ∈ wsL_law_r7, w ∈ wsL_law := fun _ h => List.mem_append_left _ (List.mem_append_left _ (List.mem_append_left _ (List.mem_append_left _ (List.mem_append_left _ (List.mem_append_left _ (List.mem_append_left _ (List.mem_append_left _ (List.mem_append_left _ (List.mem_append_right _ (List.mem_append_right _ (List.mem_append_right _ (List.mem_append_right _ (List.mem_append_right _ (List.mem_append_right _ (List.mem_append_left _ h)))))))))))))))
theorem iw_8 : ∀ w ∈ wsL_law_r8, w ∈ wsL_law := fun _ h => List.mem_append_left _ (List.mem_append_left _ (List.mem_append_left _ (List.mem_append_left _ (List.mem_append_left _ (List.mem_append_left _ (List.mem_append_left _ (List.mem_append_left _ (List.mem_append_left _ (List.mem_append_right _ (List.mem_append_right _ (List.mem_append_right _ (List.mem_append_right _ (List.mem_append_right _ (List.mem_append_right _ (List.mem_append_right _ (List.mem_append_left _ h))))))))))))))))
theorem iw_9 : ∀ w ∈ wsL_law_r9, w ∈ wsL_law := fun _ h => List.mem_append_left _ (List.mem_append_left _ (List.mem_append_left _ (List.mem_append_left _ (List.mem_append_left _ (List.mem_append_left _ (List.mem_append_left _ (List.mem_append_left _ (List.mem_append_left _ (List.mem_append_right _ (List.mem_append_right _ (List.mem_append_right _ (List.mem_append_right _ (List.mem_append_right _ (List.mem_append_right _ (List.mem_append_right _ (List.mem_append_right _ (List.mem_append_left _ h)))))))))))))))))
theorem iw_10 : ∀ w ∈ wsL_law_r10, w ∈ wsL_law := fun _ h => List.mem_append_left _ (List.mem_append_left _ (List.mem_append_left _ (List.mem_append_left _ (List.mem_append_left _ (List.mem_append_left _ (List.mem_append_left _ (List.mem_append_left _ (List.mem_append_left _ (List.mem_append_right _ (List.mem_append_right _ (List.mem_append_right _ (List.mem_append_right _ (List.mem_append_right _ (List.mem_append_right _ (List.mem_append_right _ (List.mem_append_right _ (List.mem_append_right _ (List.mem_append_left _ h))))))))))))))))))
theorem iw_11 : ∀ w ∈ wsL_law_r11, w ∈ wsL_law := fun _ h => List.mem_append_left _ (List.mem_append_left _ (List.mem_append_left _ (List.mem_append_left _ (List.mem_append_left _ (List.mem_append_left _ (List.mem_append_left _ (List.mem_append_left _ (List.mem_append_left _ (List.mem_append_right _ (List.mem_append_right _ (List.mem_append_right _ (List.mem_append_right _ (List.mem_append_right _ (List.mem_append_right _ (List.mem_append_right _ (List.mem_append_right _ (List.mem_append_right _ (List.mem_append_right _ (List.mem_append_left _ h)))))))))))))))))))
theorem iw_12 : ∀ w ∈ wsL_law_r12, w ∈ wsL_law := fun _ h => List.mem_append_left _ (List.mem_append_left _ (List.mem_append_left _ (List.mem_append_left _ (List.mem_append_left _ (List.mem_append_left _ (List.mem_append_left _ (List.mem_append_left _ (List.mem_append_left _ (List.mem_append_right _ (List.mem_append_right _ (List.mem_append_right _ (List.mem_append_right _ (List.mem_append_right _ (List.mem_append_right _ (List.mem_append_right _ (List.mem_append_right _ (List.mem_append_right _ (List.mem_append_right _ (List.mem_append_right _ (List.mem_append_left _ h))))))))))))))))))))
theorem iw_13 : ∀ w ∈ wsL_law_r13, w ∈ wsL_law := fun _ h => List.mem_append_left _ (List.mem_append_left _ (List.mem_append_left _ (List.mem_append_left _ (List.mem_append_left _ (List.mem_append_left _ (List.mem_append_left _ (List.mem_append_left _ (List.mem_append_left _ (List.mem_append_right _ (List.mem_append_right _ (List.mem_append_right _ (List.mem_append_right _ (List.mem_append_right _ (List.mem_append_right _ (List.mem_append_right _ (List.mem_append_right _ (List.mem_append_right _ (List.mem_append_right _ (List.mem_append_right _ (List.mem_append_right _ (List.mem_append_left _ h)))))))))))))))))))))
theorem iw_14 : ∀ w ∈ wsL_law_r14, w ∈ wsL_law := fun _ h => List.mem_append_left _ (List.mem_append_left _ (List.mem_append_left _ (List.mem_append_left _ (List.mem_append_left _ (List.mem_append_left _ (List.mem_append_left _ (List.mem_append_left _ (List.mem_append_left _ (List.mem_append_right _ (List.mem_append_right _ (List.mem_append_right _ (List.mem_append_right _ (List.mem_append_right _ (List.mem_append_right _ (List.mem_append_right _ (List.mem_append_right _ (List.mem_append_right _ (List.mem_append_right _ (List.mem_append_right _ (List.mem_append_right _ (List.mem_append_right _ (List.mem_append_left _ h))))))))))))))))))))))
theorem iw_15 : ∀ w ∈ wsL_law_r15, w ∈ wsL_law := fun _ h => List.mem_append_left _ (List.mem_append_left _ (List.mem_append_left _ (List.mem_append_left _ (List.mem_append_left _ (List.mem_append_left _ (List.mem_append_left _ (List.mem_append_left _ (List.mem_append_left _ (List.mem_append_right _ (List.mem_append_right _ (List.mem_append_right _ (List.mem_append_right _ (List.mem_append_right _ (List.mem_append_right _ (List.mem_append_right _ (List.mem_append_right _ (List.mem_append_right _ (List.mem_append_right _ (List.mem_append_right _ (List.mem_append_right _ (List.mem_append_right _ (List.mem_append_right _ (List.mem_append_left _ h)))))))))))))))))))))))
theorem iw_16 : ∀ w ∈ wsL_law_r16, w ∈ wsL_law := fun _ h => List.mem_append_left _ (List.mem_append_left _ (List.mem_append_left _ (List.mem_append_left _ (List.mem_append_left _ (List.mem_append_left _ (List.mem_append_left _ (List.mem_append_left _ (List.mem_append_left _ (List.mem_append_right _ (List.mem_append_right _ (List.mem_append_right _ (List.mem_append_right _ (List.mem_append_right _ (List.mem_append_right _ (List.mem_append_right _ (List.mem_append_right _ (List.mem_append_right _ (List.mem_append_right _ (List.mem_append_right _ (List.mem_append_right _ (List.mem_append_right _ (List.mem_append_right _ (List.mem_append_right _ (List.mem_append_left _ h))))))))))))))))))))))))
theorem iw_17 : ∀ w ∈ wsL_law_r17, w ∈ wsL_law := fun _ h => List.mem_append_left _ (List.mem_append_left _ (List.mem_append_left _ (List.mem_append_left _ (List.mem_append_left _ (List.mem_append_left _ (List.mem_append_left _ (List.mem_append_left _ (List.mem_append_left _ (List.mem_append_right _ (List.mem_append_right _ (List.mem_append_right _ (List.mem_append_right _ (List.mem_append_right _ (List.mem_append_right _ (List.mem_append_right _ (List.mem_append_right _ (List.mem_append_right _ (List.mem_append_right _ (List.mem_append_right _ (List.mem_append_right _ (List.mem_append_right _ (List.mem_append_right _ (List.mem_append_right _ (List.mem_append_right _ (List.mem_append_left _ h)))))))))))))))))))))))))
theorem iw_18 : ∀ w ∈ wsL_law_r18, w ∈ wsL_law := fun _ h => List.mem_append_left _ (List.mem_append_left _ (List.mem_append_left _ (List.mem_append_left _ (List.mem_append_left _ (List.mem_append_left _ (List.mem_append_left _ (List.mem_append_left _ (List.mem_append_left _ (List.mem_append_right _ (List.mem_append_right _ (List.mem_append_right _ (List.mem_append_right _ (List.mem_append_right _ (List.mem_append_right _ (List.mem_append_right _ (List.mem_append_right _ (List.mem_append_right _ (List.mem_append_right _ (List.mem_append_right _ (List.mem_append_right _ (List.mem_append_right _ (List.mem_append_right _ (List.mem_append_right _ (List.mem_append_right _ (List.mem_append_right _ (List.mem_append_left _ h))))))))))))))))))))))))))
theorem iw_19 : ∀ w ∈ wsL_law_r19, w ∈ wsL_law := fun _ h => List.mem_append_left _ (List.mem_append_left _ (List.mem_append_left _ (List.mem_append_left _ (List.mem_append_left _ (List.mem_append_left _ (List.mem_append_left _ (List.mem_append_left _ (List.mem_append_left _ (List.mem_append_right _ (List.mem_append_right _ (List.mem_append_right _ (List.mem_append_right _ (List.mem_append_right _ (List.mem_append_right _ (List.mem_append_right _ (List.mem_append_right _ (List.mem_append_right _ (List.mem_append_right _ (List.mem_append_right _ (List.mem_append_right _ (List.mem_append_right _ (List.mem_append_right _ (List.mem_append_right _ (List.mem_append_right _ (List.mem_append_right _ (List.mem_append_right _ (List.mem_append_left _ h)))))))))))))))))))))))))))
theorem iw_20 : ∀ w ∈ wsL_law_r20, w ∈ wsL_law := fun _ h => List.mem_append_left _ (List.mem_append_left _ (List.mem_append_left _ (List.mem_append_left _ (List.mem_append_left _ (List.mem_append_left _ (List.mem_append_left _ (List.mem_append_left _ (List.mem_append_left _ (List.mem_append_right _ (List.mem_append_right _ (List.mem_append_right _ (List.mem_append_right _ (List.mem_append_right _ (List.mem_append_right _ (List.mem_append_right _ (List.mem_append_right _ (List.mem_append_right _ (List.mem_append_right _ (List.mem_append_right _ (List.mem_append_right _ (List.mem_append_right _ (List.mem_append_right _ (List.mem_append_right _ (List.mem_append_right _ (List.mem_append_right _ (List.mem_append_right _ (List.mem_append_right _ (List.mem_append_left _ h))))))))))))))))))))))))))))
theorem iw_21 : ∀ w ∈ wsL_law_r21, w ∈ wsL_law := fun _ h => List.mem_append_left _ (List.mem_append_left _ (List.mem_append_left _ (List.mem_append_left _ (List.mem_append_left _ (List.mem_append_left _ (List.mem_append_left _ (List.mem_append_left _ (List.mem_append_left _ (List.mem_append_right _ (List.mem_append_right _ (List.mem_append_right _ (List.mem_append_right _ (List.mem_append_right _ (List.mem_append_right _ (List.mem_append_right _ (List.mem_append_right _ (List.mem_append_right _ (List.mem_append_right _ (List.mem_append_right _ (List.mem_append_right _ (List.mem_append_right _ (List.mem_append_right _ (List.mem_append_right _ (List.mem_append_right _ (List.mem_append_right _ (List.mem_append_right _ (List.mem_append_right _ (List.mem_append_right _ (List.mem_append_left _ h)))))))))))))))))))))))))))))
theorem iw_22 : ∀ w ∈ wsL_law_r22, w ∈ wsL_law := fun _ h => List.mem_append_left _ (List.mem_append_left _ (List.mem_append_left _ (List.mem_append_left _ (List.mem_append_left _ (List.mem_append_left _ (List.mem_append_left _ (List.mem_append_left _ (List.mem_append_left _ (List.mem_append_right _ (List.mem_append_right _ (List.mem_append_right _ (List.mem_append_right _ (List.mem_append_right _ (List.mem_append_right _ (List.mem_append_right _ (List.mem_append_right _ (List.mem_append_right _ (List.mem_append_right _ (List.mem_append_right _ (List.mem_append_right _ (List.mem_append_right _ (List.mem_append_right _ (List.mem_append_right _ (List.mem_append_right _ (List.mem_append_right _ (List.mem_append_right _ (List.mem_append_right _ (List.mem_append_right _ (List.mem_append_right _ (List.mem_append_left _ h))))))))))))))))))))))))))))))
theorem iw_23 : ∀ w ∈ wsL_law_r23, w ∈ wsL_law := fun _ h => List.mem_append_left _ (List.mem_append_left _ (List.mem_append_left _ (List.mem_append_left _ (List.mem_append_left _ (List.mem_append_left _ (List.mem_append_left _ (List.mem_append_left _ (List.mem_append_left _ (List.mem_append_right _ (List.mem_append_right _ (List.mem_append_right _ (List.mem_append_right _ (List.mem_append_right _ (List.mem_append_right _ (List.mem_append_right _ (List.mem_append_right _ (List.mem_append_right _ (List.mem_append_right _ (List.mem_append_right _ (List.mem_append_right _ (List.mem_append_right _ (List.mem_append_right _ (List.mem_append_right _ (List.mem_append_right _ (List.mem_append_right _ (List.mem_append_right _ (List.mem_append_right _ (List.mem_append_right _ (List.mem_append_right _ (List.mem_append_right _ (List.mem_append_left _ h)))))))))))))))))))))))))))))))
theorem iw_24 : ∀ w ∈ wsL_law_r24, w ∈ wsL_law := fun _ h => List.mem_append_left _ (List.mem_append_left _ (List.mem_append_left _ (List.mem_append_left _ (List.mem_append_left _ (List.mem_append_left _ (List.mem_append_left _ (List.mem_append_left _ (List.mem_append_left _ (List.mem_append_right _ (List.mem_append_right _ (List.mem_append_right _ (List.mem_append_right _ (List.mem_append_right _ (List.mem_append_right _ (List.mem_append_right _ (List.mem_append_right _ (List.mem_append_right _ (List.mem_append_right _ (List.mem_append_right _ (List.mem_append_right _ (List.mem_append_right _ (List.mem_append_right _ (List.mem_append_right _ (List.mem_append_right _ (List.mem_append_right _ (List.mem_append_right _ (List.mem_append_right _ (List.mem_append_right _ (List.mem_append_right _ (List.mem_append_right _ (List.mem_append_right _ (List.mem_append_left _ h))))))))))))))))))))))))))))))))
theorem iw_25 : ∀ w ∈ wsL_law_r25, w ∈ wsL_law := fun _ h => List.mem_append_left _ (List.mem_append_left _ (List.mem_append_left _ (List.mem_append_left _ (List.mem_append_left _ (List.mem_append_left _ (List.mem_append_left _ (List.mem_append_left _ (List.mem_append_left _ (List.mem_append_right _ (List.mem_append_right _ (List.mem_append_right _ (List.mem_append_right _ (List.mem_append_right _ (List.mem_append_right _ (List.mem_append_right _ (List.mem_append_right _ (List.mem_append_right _ (List.mem_append_right _ (List.mem_append_right _ (List.mem_append_right _ (List.mem_append_right _ (List.mem_append_right _ (List.mem_append_right _ (List.mem_append_right _ (List.mem_append_right _ (List.mem_append_right _ (List.mem_append_right _ (List.mem_append_right _ (List.mem_append_right _ (List.mem_append_right _ (List.mem_append_right _ (List.mem_append_right _ (List.mem_append_left _ h)))))))))))))))))))))))))))))))))
theorem iw_26 : ∀ w ∈ wsL_law_r26, w ∈ wsL_law := fun _ h => List.mem_append_left _ (List.mem_append_left _ (List.mem_append_left _ (List.mem_append_left _ (List.mem_append_left _ (List.mem_append_left _ (List.mem_append_left _ (List.mem_append_left _ (List.mem_append_left _ (List.mem_append_right _ (List.mem_append_right _ (List.mem_append_right _ (List.mem_append_right _ (List.mem_append_right _ (List.mem_append_right _ (List.mem_append_right _ (List.mem_append_right _ (List.mem_append_right _ (List.mem_append_right _ (List.mem_append_right _ (List.mem_append_right _ (List.mem_append_right _ (List.mem_append_right _ (List.mem_append_right _ (List.mem_append_right _ (List.mem_append_right _ (List.mem_append_right _ (List.mem_append_right _ (List.mem_append_right _ (List.mem_append_right _ (List.mem_append_right _ (List.mem_append_right _ (List.mem_append_right _ (List.mem_append_right _ (List.mem_append_left _ h))))))))))))))))))))))))))))))))))
theorem iw_27 : ∀ w ∈ wsL_law_r27, w ∈ wsL_law := fun _ h => List.mem_append_left _ (List.mem_append_left _ (List.mem_append_left _ (List.mem_append_left _ (List.mem_append_left _ (List.mem_append_left _ (List.mem_append_left _ (List.mem_append_left _ (List.mem_append_left _ (List.mem_append_right _ (List.mem_append_right _ (List.mem_append_right _ (List.mem_append_right _ (List.mem_append_right _ (List.mem_append_right _ (List.mem_append_right _ (List.mem_append_right _ (List.mem_append_right _ (List.mem_append_right _ (List.mem_append_right _ (List.mem_append_right _ (List.mem_append_right _ (List.mem_append_right _ (List.mem_append_right _ (List.mem_append_right _ (List.mem_append_right _ (List.mem_append_right _ (List.mem_append_right _ (List.mem_append_right _ (List.mem_append_right _ (List.mem_append_right _ (List.mem_append_right _ (List.mem_append_right _ (List.mem_append_right _ (List.mem_append_right _ (List.mem_append_left _ h)))))))))))))))))))))))))))))))))))
theorem iw_28 : ∀ w ∈ wsL_law_r28, w ∈ wsL_law := fun _ h => List.mem_append_left _ (List.mem_append_left _ (List.mem_append_left _ (List.mem_append_left _ (List.mem_append_left _ (List.mem_append_left _ (List.mem_append_left _ (List.mem_append_left _ (List.mem_append_left _ (List.mem_append_right _ (List.mem_append_right _ (List.mem_append_right _ (List.mem_append_right _ (List.mem_append_right _ (List.mem_append_right _ (List.mem_append_right _ (List.mem_append_right _ (List.mem_append_right _ (List.mem_append_right _ (List.mem_append_right _ (List.mem_append_right _ (List.mem_append_right _ (List.mem_append_right _ (List.mem_append_right _ (List.mem_append_right _ (List.mem_append_right _ (List.mem_append_right _ (List.mem_append_right _ (List.mem_append_right _ (List.mem_append_right _ (List.mem_append_right _ (List.mem_append_right _ (List.mem_append_right _ (List.mem_append_right _ (List.mem_append_right _ (List.mem_append_right _ (List.mem_append_left _ h))))))))))))))))))))))))))))))))))))
theorem iw_29 : ∀ w ∈ wsL_law_r29, w ∈ wsL_law := fun _ h => List.mem_append_left _ (List.mem_append_left _ (List.mem_append_left _ (List.mem_append_left _ (List.mem_append_left _ (List.mem_append_left _ (List.mem_append_left _ (List.mem_append_left _ (List.mem_append_left _ (List.mem_append_right _ (List.mem_append_right _ (List.mem_append_right _ (List.mem_append_right _ (List.mem_append_right _ (List.mem_append_right _ (List.mem_append_right _ (List.mem_append_right _ (List.mem_append_right _ (List.mem_append_right _ (List.mem_append_right _ (List.mem_append_right _ (List.mem_append_right _ (List.mem_append_right _ (List.mem_append_right _ (List.mem_append_right _ (List.mem_append_right _ (List.mem_append_right _ (List.mem_append_right _ (List.mem_append_right _ (List.mem_append_right _ (List.mem_append_right _ (List.mem_append_right _ (List.mem_append_right _ (List.mem_append_right _ (List.mem_append_right _ (List.mem_append_right _ (List.mem_append_right _ (List.mem_append_left _ h)))))))))))))))))))))))))))))))))))))
theorem iw_30 : ∀ w ∈ wsL_law_r30, w ∈ wsL_law := fun _ h => List.mem_append_left _ (List.mem_append_left _ (List.mem_append_left _ (List.mem_append_left _ (List.mem_append_left _ (List.mem_append_left _ (List.mem_append_left _ (List.mem_append_left _ (List.mem_append_left _ (List.mem_append_right _ (List.mem_append_right _ (List.mem_append_right _ (List.mem_append_right _ (List.mem_append_right _ (List.mem_append_right _ (List.mem_append_right _ (List.mem_append_right _ (List.mem_append_right _ (List.mem_append_right _ (List.mem_append_right _ (List.mem_append_right _ (List.mem_append_right _ (List.mem_append_right _ (List.mem_append_right _ (List.mem_append_right _ (List.mem_append_right _ (List.mem_append_right _ (List.mem_append_right _ (List.mem_append_right _ (List.mem_append_right _ (List.mem_append_right _ (List.mem_append_right _ (List.mem_append_right _ (List.mem_append_right _ (List.mem_append_right _ (List.mem_append_right _ (List.mem_append_right _ (List.mem_append_right _ (List.mem_append_left _ h))))))))))))))))))))))))))))))))))))))
theorem iw_31 : ∀ w ∈ wsL_law_r31, w ∈ wsL_law := fun _ h => List.mem_append_left _ (List.mem_append_left _ (List.mem_append_left _ (List.mem_append_left _ (List.mem_append_left _ (List.mem_append_left _ (List.mem_append_left _ (List.mem_append_left _ (List.mem_append_left _ (List.mem_append_right _ (List.mem_append_right _ (List.mem_append_right _ (List.mem_append_right _ (List.mem_append_right _ (List.mem_append_right _ (List.mem_append_right _ (List.mem_append_right _ (List.mem_append_right _ (List.mem_append_right _ (List.mem_append_right _ (List.mem_append_right _ (List.mem_append_right _ (List.mem_append_right _ (List.mem_append_right _ (List.mem_append_right _ (List.mem_append_right _ (List.mem_append_right _ (List.mem_append_right _ (List.mem_append_right _ (List.mem_append_right _ (List.mem_append_right _ (List.mem_append_right _ (List.mem_append_right _ (List.mem_append_right _ (List.mem_append_right _ (List.mem_append_right _ (List.mem_append_right _ (List.mem_append_right _ (List.mem_append_right _ (List.mem_append_left _ h)))))))))))))))))))))))))))))))))))))))
theorem iw_32 : ∀ w ∈ wsL_law_r32, w ∈ wsL_law := fun _ h => List.mem_append_left _ (List.mem_append_left _ (List.mem_append_left _ (List.mem_append_left _ (List.mem_append_left _ (List.mem_append_left _ (List.mem_append_left _ (List.mem_append_left _ (List.mem_append_left _ (List.mem_append_right _ (List.mem_append_right _ (List.mem_append_right _ (List.mem_append_right _ (List.mem_append_right _ (List.mem_append_right _ (List.mem_append_right _ (List.mem_append_right _ (List.mem_append_right _ (List.mem_append_right _ (List.mem_append_right _ (List.mem_append_right _ (List.mem_append_right _ (List.mem_append_right _ (List.mem_append_right _ (List.mem_append_right _ (List.mem_append_right _ (List.mem_append_right _ (List.mem_append_right _ (List.mem_append_right _ (List.mem_append_right _ (List.mem_append_right _ (List.mem_append_right _ (List.mem_append_right _ (List.mem_append_right _ (List.mem_append_right _ (List.mem_append_right _ (List.mem_append_right _ (List.mem_append_right _ (List.mem_append_right _ (List.mem_append_right _ (List.mem_append_left _ h))))))))))))))))))))))))))))))))))))))))
theorem iw_33 : ∀ w ∈ wsL_law_r33, w ∈ wsL_law := fun _ h => List.mem_append_left _ (List.mem_append_left _ (List.mem_append_left _ (List.mem_append_left _ (List.mem_append_left _ (List.mem_append_left _ (List.mem_append_left _ (List.mem_append_left _ (List.mem_append_left _ (List.mem_append_right _ (List.mem_append_right _ (List.mem_append_right _ (List.mem_append_right _ (List.mem_append_right _ (List.mem_append_right _ (List.mem_append_right _ (List.mem_append_right _ (List.mem_append_right _ (List.mem_append_right _ (List.mem_append_right _ (List.mem_append_right _ (List.mem_append_right _ (List.mem_append_right _ (List.mem_append_right _ (List.mem_append_right _ (List.mem_append_right _ (List.mem_append_right _ (List.mem_append_right _ (List.mem_append_right _ (List.mem_append_right _ (List.mem_append_right _ (List.mem_append_right _ (List.mem_append_right _ (List.mem_append_right _ (List.mem_append_right _ (List.mem_append_right _ (List.mem_append_right _ (List.mem_append_right _ (List.mem_append_right _ (List.mem_append_right _ (List.mem_append_right _ (List.mem_append_left _ h)))))))))))))))))))))))))))))))))))))))))
theorem iw_34 : ∀ w ∈ wsL_law_r34, w ∈ wsL_law := fun _ h => List.mem_append_left _ (List.mem_append_left _ (List.mem_append_left _ (List.mem_append_left _ (List.mem_append_left _ (List.mem_append_left _ (List.mem_append_left _ (List.mem_append_left _ (List.mem_append_left _ (List.mem_append_right _ (List.mem_append_right _ (List.mem_append_right _ (List.mem_append_right _ (List.mem_append_right _ (List.mem_append_right _ (List.mem_append_right _ (List.mem_append_right _ (List.mem_append_right _ (List.mem_append_right _ (List.mem_append_right _ (List.mem_append_right _ (List.mem_append_right _ (List.mem_append_right _ (List.mem_append_right _ (List.mem_append_right _ (List.mem_append_right _ (List.mem_append_right _ (List.mem_append_right _ (List.mem_append_right _ (List.mem_append_right _ (List.mem_append_right _ (List.mem_append_right _ (List.mem_append_right _ (List.mem_append_right _ (List.mem_append_right _ (List.mem_append_right _ (List.mem_append_right _ (List.mem_append_right _ (List.mem_append_right _ (List.mem_append_right _ (List.mem_append_right _ (List.mem_append_right _ (List.mem_append_left _ h))))))))))))))))))))))))))))))))))))))))))
theorem iw_35 : ∀ w ∈ wsL_law_r35, w ∈ wsL_law := fun _ h => List.mem_append_left _ (List.mem_append_left _ (List.mem_append_left _ (List.mem_append_left _ (List.mem_append_left _ (List.mem_append_left _ (List.mem_append_left _ (List.mem_append_left _ (List.mem_append_left _ (List.mem_append_right _ (List.mem_append_right _ (List.mem_append_right _ (List.mem_append_right _ (List.mem_append_right _ (List.mem_append_right _ (List.mem_append_right _ (List.mem_append_right _ (List.mem_append_right _ (List.mem_append_right _ (List.mem_append_right _ (List.mem_append_right _ (List.mem_append_right _ (List.mem_append_right _ (List.mem_append_right _ (List.mem_append_right _ (List.mem_append_right _ (List.mem_append_right _ (List.mem_append_right _ (List.mem_append_right _ (List.mem_append_right _ (List.mem_append_right _ (List.mem_append_right _ (List.mem_append_right _ (List.mem_append_right _ (List.mem_append_right _ (List.mem_append_right _ (List.mem_append_right _ (List.mem_append_right _ (List.mem_append_right _ (List.mem_append_right _ (List.mem_append_right _ (List.mem_append_right _ (List.mem_append_right _ (List.mem_append_left _ h)))))))))))))))))))))))))))))))))))))))))))
theorem iw_36 : ∀ w ∈ wsL_law_r36, w ∈ wsL_law := fun _ h => List.mem_append_left _ (List.mem_append_left _ (List.mem_append_left _ (List.mem_append_left _ (List.mem_append_left _ (List.mem_append_left _ (List.mem_append_left _ (List.mem_append_left _ (List.mem_append_left _ (List.mem_append_right _ (List.mem_append_right _ (List.mem_append_right _ (List.mem_append_right _ (List.mem_append_right _ (List.mem_append_right _ (List.mem_append_right _ (List.mem_append_right _ (List.mem_append_right _ (List.mem_append_right _ (List.mem_append_right _ (List.mem_append_right _ (List.mem_append_right _ (List.mem_append_right _ (List.mem_append_right _ (List.mem_append_right _ (List.mem_append_right _ (List.mem_append_right _ (List.mem_append_right _ (List.mem_append_right _ (List.mem_append_right _ (List.mem_append_right _ (List.mem_append_right _ (List.mem_append_right _ (List.mem_append_right _ (List.mem_append_right _ (List.mem_append_right _ (List.mem_append_right _ (List.mem_append_right _ (List.mem_append_right _ (List.mem_append_right _ (List.mem_append_right _ (List.mem_append_right _ (List.mem_append_right _ (List.mem_append_right _ (List.mem_append_left _ h))))))))))))))))))))))))))))))))))))))))))))
theorem iw_37 : ∀ w ∈ wsL_law_r37, w ∈ wsL_law := fun _ h => List.mem_append_left _ (List.mem_append_left _ (List.mem_append_left _ (List.mem_append_left _ (List.mem_append_left _ (List.mem_append_left _ (List.mem_append_left _ (List.mem_append_left _ (List.mem_append_left _ (List.mem_append_right _ (List.mem_append_right _ (List.mem_append_right _ (List.mem_append_right _ (List.mem_append_right _ (List.mem_append_right _ (List.mem_append_right _ (List.mem_append_right _ (List.mem_append_right _ (List.mem_append_right _ (List.mem_append_right _ (List.mem_append_right _ (List.mem_append_right _ (List.mem_append_right _ (List.mem_append_right _ (List.mem_append_right _ (List.mem_append_right _ (List.mem_append_right _ (List.mem_append_right _ (List.mem_append_right _ (List.mem_append_right _ (List.mem_append_right _ (List.mem_append_right _ (List.mem_append_right _ (List.mem_append_right _ (List.mem_append_right _ (List.mem_append_right _ (List.mem_append_right _ (List.mem_append_right _ (List.mem_append_right _ (List.mem_append_right _ (List.mem_append_right _ (List.mem_append_right _ (List.mem_append_right _ (List.mem_append_right _ (List.mem_append_right _ (List.mem_append_left _ h)))))))))))))))))))))))))))))))))))))))))))))
theorem iw_38 : ∀ w ∈ wsL_law_r38, w ∈ wsL_law := fun _ h => List.mem_append_left _ (List.mem_append_left _ (List.mem_append_left _ (List.mem_append_left _ (List.mem_append_left _ (List.mem_append_left _ (List.mem_append_left _ (List.mem_append_left _ (List.mem_append_left _ (List.mem_append_right _ (List.mem_append_right _ (List.mem_append_right _ (List.mem_append_right _ (List.mem_append_right _ (List.mem_append_right _ (List.mem_append_right _ (List.mem_append_right _ (List.mem_append_right _ (List.mem_append_right _ (List.mem_append_right _ (List.mem_append_right _ (List.mem_append_right _ (List.mem_append_right _ (List.mem_append_right _ (List.mem_append_right _ (List.mem_append_right _ (List.mem_append_right _ (List.mem_append_right _ (List.mem_append_right _ (List.mem_append_right _ (List.mem_append_right _ (List.mem_append_right _ (List.mem_append_right _ (List.mem_append_right _ (List.mem_append_right _ (List.mem_append_right _ (List.mem_append_right _ (List.mem_append_right _ (List.mem_append_right _ (List.mem_append_right _ (List.mem_append_right _ (List.mem_append_right _ (List.mem_append_right _ (List.mem_append_right _ (List.mem_append_right _ (List.mem_append_right _ (List.mem_append_left _ h))))))))))))))))))))))))))))))))))))))))))))))
theorem iw_39 : ∀ w ∈ wsL_law_r39, w ∈ wsL_law := fun _ h => List.mem_append_left _ (List.mem_append_left _ (List.mem_append_left _ (List.mem_append_left _ (List.mem_append_left _ (List.mem_append_left _ (List.mem_append_left _ (List.mem_append_left _ (List.mem_append_left _ (List.mem_append_right _ (List.mem_append_right _ (List.mem_append_right _ (List.mem_append_right _ (List.mem_append_right _ (List.mem_append_right _ (List.mem_append_right _ (List.mem_append_right _ (List.mem_append_right _ (List.mem_append_right _ (List.mem_append_right _ (List.mem_append_right _ (List.mem_append_right _ (List.mem_append_right _ (List.mem_append_right _ (List.mem_append_right _ (List.mem_append_right _ (List.mem_append_right _ (List.mem_append_right _ (List.mem_append_right _ (List.mem_append_right _ (List.mem_append_right _ (List.mem_append_right _ (List.mem_append_right _ (List.mem_append_right _ (List.mem_append_right _ (List.mem_append_right _ (List.mem_append_right _ (List.mem_append_right _ (List.mem_append_right _ (List.mem_append_right _ (List.mem_append_right _ (List.mem_append_right _ (List.mem_append_right _ (List.mem_append_right _ (List.mem_append_right _ (List.mem_append_right _ (List.mem_append_right _ (List.mem_append_left _ h)))))))))))))))))))))))))))))))))))))))))))))))
theorem iw_40 : ∀ w ∈ wsL_law_r40, w ∈ wsL_law := fun _ h => List.mem_append_left _ (List.mem_append_left _ (List.mem_append_left _ (List.mem_append_left _ (List.mem_append_left _ (List.mem_append_left _ (List.mem_append_left _ (List.mem_append_left _ (List.mem_append_left _ (List.mem_append_right _ (List.mem_append_right _ (List.mem_append_right _ (List.mem_append_right _ (List.mem_append_right _ (List.mem_append_right _ (List.mem_append_right _ (List.mem_append_right _ (List.mem_append_right _ (List.mem_append_right _ (List.mem_append_right _ (List.mem_append_right _ (List.mem_append_right _ (List.mem_append_right _ (List.mem_append_right _ (List.mem_append_right _ (List.mem_append_right _ (List.mem_append_right _ (List.mem_append_right _ (List.mem_append_right _ (List.mem_append_right _ (List.mem_append_right _ (List.mem_append_right _ (List.mem_append_right _ (List.mem_append_right _ (List.mem_append_right _ (List.mem_append_right _ (List.mem_append_right _ (List.mem_append_right _ (List.mem_append_right _ (List.mem_append_right _ (List.mem_append_right _ (List.mem_append_right _ (List.mem_append_right _ (List.mem_append_right _ (List.mem_append_right _ (List.mem_append_right _ (List.mem_append_right _ (List.mem_append_right _ (List.mem_append_left _ h))))))))))))))))))))))))))))))))))))))))))))))))
theorem iw_41 : ∀ w ∈ wsL_law_r41, w ∈ wsL_law := fun _ h => List.mem_append_left _ (List.mem_append_left _ (List.mem_append_left _ (List.mem_append_left _ (List.mem_append_left _ (List.mem_append_left _ (List.mem_append_left _ (List.mem_append_left _ (List.mem_append_left _ (List.mem_append_right _ (List.mem_append_right _ (List.mem_append_right _ (List.mem_append_right _ (List.mem_append_right _ (List.mem_append_right _ (List.mem_append_right _ (List.mem_append_right _ (List.mem_append_right _ (List.mem_append_right _ (List.mem_append_right _ (List.mem_append_right _ (List.mem_append_right _ (List.mem_append_right _ (List.mem_append_right _ (List.mem_append_right _ (List.mem_append_right _ (List.mem_append_right _ (List.mem_append_right _ (List.mem_append_right _ (List.mem_append_right _ (List.mem_append_right _ (List.mem_append_right _ (List.mem_append_right _ (List.mem_append_right _ (List.mem_append_right _ (List.mem_append_right _ (List.mem_append_right _ (List.mem_append_right _ (List.mem_append_right _ (List.mem_append_right _ (List.mem_append_right _ (List.mem_append_right _ (List.mem_append_right _ (List.mem_append_right _ (List.mem_append_right _ (List.mem_append_right _ (List.mem_append_right _ (List.mem_append_right _ (List.mem_append_right _ (h)))))))))))))))))))))))))))))))))))))))))))))))))
abbrev mX0_clear : rf_Me := (yX0_clear, cX0_clear, 1, none, { frames := 0, cells := 0, slots := 0, locals := 0 })
abbrev mX0_addLine : rf_Me := (yX0_addLine, cX0_addLine, 5, none, { frames := 0, cells := 0, slots := 0, locals := 0 })
abbrev mX1_clear : rf_Me := (yX1_clear, cX1_clear, 1, none, { frames := 0, cells := 0, slots := 0, locals := 0 })
abbrev mX1_copyFrom : rf_Me := (yX1_copyFrom, cX1_copyFrom, 2, none, { frames := 1, cells := 0, slots := 0, locals := 30 })
abbrev mX1_addLine : rf_Me := (yX1_addLine, cX1_addLine, 3, none, { frames := 0, cells := 0, slots := 0, locals := 0 })
abbrev mX1_addReader : rf_Me := (yX1_addReader, cX1_addReader, 3, none, { frames := 0, cells := 0, slots := 0, locals := 0 })
abbrev mX1_tellError : rf_Me := (yX1_tellError, cX1_tellError, 2, none, { frames := 0, cells := 0, slots := 0, locals := 0 })
abbrev mX1_hasLine : rf_Me := (yX1_hasLine, cX1_hasLine, 2, (some .boolean), { frames := 0, cells := 0, slots := 0, locals := 0 })
abbrev mX1_hasReader : rf_Me := (yX1_hasReader, cX1_hasReader, 2, (some .boolean), { frames := 0, cells := 0, slots := 0, locals := 0 })
abbrev mX1_readersOfKind : rf_Me := (yX1_readersOfKind, cX1_readersOfKind, 4, (some .int), { frames := 0, cells := 0, slots := 0, locals := 0 })
abbrev mX2_add : rf_Me := (yX2_add, cX2_add, 4, none, { frames := 0, cells := 0, slots := 0, locals := 0 })
abbrev mX2_timesRead : rf_Me := (yX2_timesRead, cX2_timesRead, 4, (some .int), { frames := 0, cells := 0, slots := 0, locals := 0 })
abbrev mX2_copyFrom : rf_Me := (yX2_copyFrom, cX2_copyFrom, 2, none, { frames := 1, cells := 0, slots := 0, locals := 30 })
abbrev mX3_add : rf_Me := (yX3_add, cX3_add, 4, (some .int), { frames := 0, cells := 0, slots := 0, locals := 0 })
abbrev mX3_forLine : rf_Me := (yX3_forLine, cX3_forLine, 4, (some .int), { frames := 0, cells := 0, slots := 0, locals := 0 })
abbrev mX3_fulfil : rf_Me := (yX3_fulfil, cX3_fulfil, 6, (some .int), { frames := 3, cells := 0, slots := 0, locals := 67 })
abbrev mX4_append : rf_Me := (yX4_append, cX4_append, 2, none, { frames := 0, cells := 0, slots := 0, locals := 0 })
abbrev mX4_parseInto : rf_Me := (yX4_parseInto, cX4_parseInto, 3, none, { frames := 9, cells := 0, slots := 0, locals := 199 })
abbrev mX4_parseClause : rf_Me := (yX4_parseClause, cX4_parseClause, 4, none, { frames := 8, cells := 0, slots := 0, locals := 176 })
abbrev mX4_parseLine : rf_Me := (yX4_parseLine, cX4_parseLine, 5, none, { frames := 2, cells := 0, slots := 0, locals := 46 })
abbrev mX4_parseReader : rf_Me := (yX4_parseReader, cX4_parseReader, 5, none, { frames := 7, cells := 0, slots := 0, locals := 152 })
abbrev mX4_parseError : rf_Me := (yX4_parseError, cX4_parseError, 4, none, { frames := 2, cells := 0, slots := 0, locals := 46 })
abbrev mX4_takeKind : rf_Me := (yX4_takeKind, cX4_takeKind, 3, (some .int), { frames := 6, cells := 0, slots := 0, locals := 130 })
abbrev mX4_takeNumber : rf_Me := (yX4_takeNumber, cX4_takeNumber, 5, (some .int), { frames := 1, cells := 0, slots := 0, locals := 22 })
abbrev mX4_takeEnd : rf_Me := (yX4_takeEnd, cX4_takeEnd, 1, none, { frames := 1, cells := 0, slots := 0, locals := 22 })
abbrev mX4_skipBlanks : rf_Me := (yX4_skipBlanks, cX4_skipBlanks, 1, none, { frames := 0, cells := 0, slots := 0, locals := 0 })
abbrev mX4_wordEnd : rf_Me := (yX4_wordEnd, cX4_wordEnd, 2, (some .int), { frames := 0, cells := 0, slots := 0, locals := 0 })
abbrev mX4_spells : rf_Me := (yX4_spells, cX4_spells, 5, (some .boolean), { frames := 5, cells := 0, slots := 0, locals := 106 })
abbrev mX4_isFigure : rf_Me := (yX4_isFigure, cX4_isFigure, 1, (some .boolean), { frames := 0, cells := 0, slots := 0, locals := 0 })
abbrev mX4_fail : rf_Me := (yX4_fail, cX4_fail, 3, none, { frames := 0, cells := 0, slots := 0, locals := 0 })
abbrev mX5_open : rf_Me := (yX5_open, cX5_open, 2, none, { frames := 1, cells := 0, slots := 0, locals := 23 })
abbrev mX5_copyFrom : rf_Me := (yX5_copyFrom, cX5_copyFrom, 2, none, { frames := 2, cells := 0, slots := 0, locals := 51 })
abbrev mX5_copyBooks : rf_Me := (yX5_copyBooks, cX5_copyBooks, 2, none, { frames := 1, cells := 0, slots := 0, locals := 30 })
abbrev mX5_hasPage : rf_Me := (yX5_hasPage, cX5_hasPage, 2, (some .boolean), { frames := 0, cells := 0, slots := 0, locals := 0 })
abbrev mX5_isGone : rf_Me := (yX5_isGone, cX5_isGone, 2, (some .boolean), { frames := 0, cells := 0, slots := 0, locals := 0 })
abbrev mX5_isFull : rf_Me := (yX5_isFull, cX5_isFull, 1, (some .boolean), { frames := 0, cells := 0, slots := 0, locals := 0 })
abbrev mX5_heart : rf_Me := (yX5_heart, cX5_heart, 2, (some .int), { frames := 0, cells := 0, slots := 0, locals := 0 })
abbrev mX5_variantAt : rf_Me := (yX5_variantAt, cX5_variantAt, 5, (some .int), { frames := 2, cells := 0, slots := 0, locals := 43 })
abbrev mX5_variantKnown : rf_Me := (yX5_variantKnown, cX5_variantKnown, 3, (some .int), { frames := 3, cells := 0, slots := 0, locals := 67 })
abbrev mX5_knowsAny : rf_Me := (yX5_knowsAny, cX5_knowsAny, 3, (some .boolean), { frames := 4, cells := 0, slots := 0, locals := 89 })
abbrev mX5_dayLearnt : rf_Me := (yX5_dayLearnt, cX5_dayLearnt, 3, (some .int), { frames := 1, cells := 0, slots := 0, locals := 21 })
abbrev mX5_learn : rf_Me := (yX5_learn, cX5_learn, 4, none, { frames := 1, cells := 0, slots := 0, locals := 21 })
abbrev mX5_readPage : rf_Me := (yX5_readPage, cX5_readPage, 4, none, { frames := 2, cells := 0, slots := 0, locals := 44 })
abbrev mX5_addPage : rf_Me := (yX5_addPage, cX5_addPage, 5, (some .int), { frames := 1, cells := 0, slots := 0, locals := 21 })
abbrev mX5_draw : rf_Me := (yX5_draw, cX5_draw, 2, (some .int), { frames := 0, cells := 0, slots := 0, locals := 0 })
abbrev mX5_daysAhead : rf_Me := (yX5_daysAhead, cX5_daysAhead, 2, (some .int), { frames := 1, cells := 0, slots := 0, locals := 21 })
abbrev mX5_passDusks : rf_Me := (yX5_passDusks, cX5_passDusks, 2, none, { frames := 2, cells := 0, slots := 0, locals := 42 })
abbrev mX5_liveByDraws : rf_Me := (yX5_liveByDraws, cX5_liveByDraws, 6, none, { frames := 3, cells := 0, slots := 0, locals := 67 })
abbrev mX5_isKept : rf_Me := (yX5_isKept, cX5_isKept, 5, (some .boolean), { frames := 3, cells := 0, slots := 0, locals := 67 })
abbrev mX5_countKept : rf_Me := (yX5_countKept, cX5_countKept, 4, (some .int), { frames := 4, cells := 0, slots := 0, locals := 91 })
abbrev mX5_countGone : rf_Me := (yX5_countGone, cX5_countGone, 3, (some .int), { frames := 1, cells := 0, slots := 0, locals := 21 })
abbrev mX5_isLeft : rf_Me := (yX5_isLeft, cX5_isLeft, 3, (some .boolean), { frames := 0, cells := 0, slots := 0, locals := 0 })
abbrev mX5_pagesLeft : rf_Me := (yX5_pagesLeft, cX5_pagesLeft, 4, (some .int), { frames := 1, cells := 0, slots := 0, locals := 22 })
abbrev mX5_pagesLeftWith : rf_Me := (yX5_pagesLeftWith, cX5_pagesLeftWith, 5, (some .int), { frames := 1, cells := 0, slots := 0, locals := 22 })
abbrev mX5_truePages : rf_Me := (yX5_truePages, cX5_truePages, 2, (some .int), { frames := 2, cells := 0, slots := 0, locals := 46 })
abbrev mX5_trueReadingsLeft : rf_Me := (yX5_trueReadingsLeft, cX5_trueReadingsLeft, 4, (some .int), { frames := 1, cells := 0, slots := 0, locals := 22 })
abbrev mX5_firstPage : rf_Me := (yX5_firstPage, cX5_firstPage, 3, (some .int), { frames := 1, cells := 0, slots := 0, locals := 22 })
abbrev mX5_darkestPage : rf_Me := (yX5_darkestPage, cX5_darkestPage, 4, (some .int), { frames := 1, cells := 0, slots := 0, locals := 22 })
abbrev mX5_knowers : rf_Me := (yX5_knowers, cX5_knowers, 4, (some .int), { frames := 5, cells := 0, slots := 0, locals := 111 })
abbrev mX5_knowersOf : rf_Me := (yX5_knowersOf, cX5_knowersOf, 5, (some .int), { frames := 4, cells := 0, slots := 0, locals := 89 })
abbrev mX5_trueKnowers : rf_Me := (yX5_trueKnowers, cX5_trueKnowers, 2, (some .int), { frames := 5, cells := 0, slots := 0, locals := 113 })
abbrev mX5_linesKnown : rf_Me := (yX5_linesKnown, cX5_linesKnown, 4, (some .int), { frames := 5, cells := 0, slots := 0, locals := 111 })
abbrev mX5_voteOn : rf_Me := (yX5_voteOn, cX5_voteOn, 5, (some .int), { frames := 6, cells := 0, slots := 0, locals := 134 })
abbrev mX5_canBeCopied : rf_Me := (yX5_canBeCopied, cX5_canBeCopied, 7, (some .boolean), { frames := 0, cells := 0, slots := 0, locals := 0 })
abbrev mX5_firstWriter : rf_Me := (yX5_firstWriter, cX5_firstWriter, 4, (some .int), { frames := 0, cells := 0, slots := 0, locals := 0 })
abbrev mX6_feed : rf_Me := (yX6_feed, cX6_feed, 5, (some .int), { frames := 1, cells := 0, slots := 0, locals := 21 })
abbrev mX6_library : rf_Me := (yX6_library, cX6_library, 1, (some .int), { frames := 10, cells := 0, slots := 0, locals := 221 })
abbrev mX6_fault : rf_Me := (yX6_fault, cX6_fault, 1, (some .int), { frames := 0, cells := 0, slots := 0, locals := 0 })
abbrev mX6_told : rf_Me := (yX6_told, cX6_told, 2, (some .int), { frames := 5, cells := 0, slots := 0, locals := 114 })
abbrev mX6_line : rf_Me := (yX6_line, cX6_line, 3, (some .int), { frames := 7, cells := 0, slots := 0, locals := 158 })
abbrev mX6_reader : rf_Me := (yX6_reader, cX6_reader, 3, (some .int), { frames := 6, cells := 0, slots := 0, locals := 134 })
abbrev mX6_page : rf_Me := (yX6_page, cX6_page, 3, (some .int), { frames := 1, cells := 0, slots := 0, locals := 23 })
abbrev mX6_knows : rf_Me := (yX6_knows, cX6_knows, 4, (some .int), { frames := 5, cells := 0, slots := 0, locals := 111 })
abbrev mX6_reading : rf_Me := (yX6_reading, cX6_reading, 3, (some .int), { frames := 0, cells := 0, slots := 0, locals := 0 })
abbrev mX6_read : rf_Me := (yX6_read, cX6_read, 3, (some .int), { frames := 3, cells := 0, slots := 0, locals := 67 })
abbrev mX6_copy : rf_Me := (yX6_copy, cX6_copy, 3, (some .int), { frames := 3, cells := 0, slots := 0, locals := 67 })
abbrev mX6_write : rf_Me := (yX6_write, cX6_write, 3, (some .int), { frames := 5, cells := 0, slots := 0, locals := 111 })
abbrev mX6_teach : rf_Me := (yX6_teach, cX6_teach, 5, (some .int), { frames := 5, cells := 0, slots := 0, locals := 111 })
abbrev mX6_dusk : rf_Me := (yX6_dusk, cX6_dusk, 2, (some .int), { frames := 3, cells := 0, slots := 0, locals := 63 })
abbrev mX6_run : rf_Me := (yX6_run, cX6_run, 2, (some .int), { frames := 4, cells := 0, slots := 0, locals := 92 })
abbrev mX6_where : rf_Me := (yX6_where, cX6_where, 2, (some .int), { frames := 2, cells := 0, slots := 0, locals := 44 })
abbrev mX6_request : rf_Me := (yX6_request, cX6_request, 4, (some .int), { frames := 1, cells := 0, slots := 0, locals := 23 })
abbrev mX6_forget : rf_Me := (yX6_forget, cX6_forget, 2, (some .int), { frames := 0, cells := 0, slots := 0, locals := 0 })
abbrev mX6_grant : rf_Me := (yX6_grant, cX6_grant, 2, (some .int), { frames := 4, cells := 0, slots := 0, locals := 92 })
abbrev mX6_best : rf_Me := (yX6_best, cX6_best, 4, (some .int), { frames := 5, cells := 0, slots := 0, locals := 121 })
abbrev mX6_chooseFor : rf_Me := (yX6_chooseFor, cX6_chooseFor, 10, none, { frames := 4, cells := 0, slots := 0, locals := 92 })
abbrev mX6_toKnow : rf_Me := (yX6_toKnow, cX6_toKnow, 6, (some .int), { frames := 7, cells := 0, slots := 0, locals := 160 })
abbrev mX6_fewestToKnow : rf_Me := (yX6_fewestToKnow, cX6_fewestToKnow, 7, (some .int), { frames := 6, cells := 0, slots := 0, locals := 134 })
abbrev mX6_pagesAllow : rf_Me := (yX6_pagesAllow, cX6_pagesAllow, 4, (some .boolean), { frames := 3, cells := 0, slots := 0, locals := 67 })
abbrev mX6_life : rf_Me := (yX6_life, cX6_life, 7, (some .int), { frames := 1, cells := 0, slots := 0, locals := 23 })
abbrev mX6_right : rf_Me := (yX6_right, cX6_right, 5, (some .int), { frames := 1, cells := 0, slots := 0, locals := 23 })
abbrev mX6_claim : rf_Me := (yX6_claim, cX6_claim, 4, (some .int), { frames := 1, cells := 0, slots := 0, locals := 26 })
abbrev mX6_whence : rf_Me := (yX6_whence, cX6_whence, 3, (some .int), { frames := 1, cells := 0, slots := 0, locals := 23 })
abbrev mX6_span : rf_Me := (yX6_span, cX6_span, 9, (some .int), { frames := 5, cells := 0, slots := 0, locals := 114 })
abbrev mX6_note : rf_Me := (yX6_note, cX6_note, 2, (some .int), { frames := 0, cells := 0, slots := 0, locals := 0 })
abbrev mX6_tear : rf_Me := (yX6_tear, cX6_tear, 2, (some .int), { frames := 0, cells := 0, slots := 0, locals := 0 })
abbrev mX6_judge : rf_Me := (yX6_judge, cX6_judge, 2, (some .int), { frames := 5, cells := 0, slots := 0, locals := 114 })
abbrev mX6_seed : rf_Me := (yX6_seed, cX6_seed, 3, (some .int), { frames := 0, cells := 0, slots := 0, locals := 0 })
abbrev mX6_keep : rf_Me := (yX6_keep, cX6_keep, 2, (some .int), { frames := 3, cells := 0, slots := 0, locals := 72 })
abbrev mX6_goBack : rf_Me := (yX6_goBack, cX6_goBack, 2, (some .int), { frames := 3, cells := 0, slots := 0, locals := 72 })
abbrev mX6_has : rf_Me := (yX6_has, cX6_has, 2, (some .boolean), { frames := 0, cells := 0, slots := 0, locals := 0 })
abbrev mX6_isSetOf : rf_Me := (yX6_isSetOf, cX6_isSetOf, 2, (some .boolean), { frames := 0, cells := 0, slots := 0, locals := 0 })
abbrev mX7_in : rf_Me := (yX7_in, cX7_in, 6, (some .boolean), { frames := 0, cells := 0, slots := 0, locals := 0 })
abbrev mX7_one : rf_Me := (yX7_one, cX7_one, 1, (some .int), { frames := 0, cells := 0, slots := 0, locals := 0 })
abbrev mX7_has : rf_Me := (yX7_has, cX7_has, 2, (some .boolean), { frames := 0, cells := 0, slots := 0, locals := 0 })
abbrev mX7_ones : rf_Me := (yX7_ones, cX7_ones, 3, (some .int), { frames := 0, cells := 0, slots := 0, locals := 0 })
abbrev mX7_feed : rf_Me := (yX7_feed, cX7_feed, 5, (some .int), { frames := 1, cells := 0, slots := 0, locals := 25 })
abbrev mX7_here : rf_Me := (yX7_here, cX7_here, 1, (some .int), { frames := 0, cells := 0, slots := 0, locals := 0 })
abbrev mX7_want : rf_Me := (yX7_want, cX7_want, 4, (some .boolean), { frames := 0, cells := 0, slots := 0, locals := 0 })
abbrev mX7_takeWord : rf_Me := (yX7_takeWord, cX7_takeWord, 2, none, { frames := 1, cells := 0, slots := 0, locals := 25 })
abbrev mX7_isWord : rf_Me := (yX7_isWord, cX7_isWord, 11, (some .boolean), { frames := 0, cells := 0, slots := 0, locals := 0 })
abbrev mX7_takeNumber : rf_Me := (yX7_takeNumber, cX7_takeNumber, 6, (some .int), { frames := 1, cells := 0, slots := 0, locals := 25 })
abbrev mX7_kindHere : rf_Me := (yX7_kindHere, cX7_kindHere, 2, (some .int), { frames := 1, cells := 0, slots := 0, locals := 30 })
abbrev mX7_takeClause : rf_Me := (yX7_takeClause, cX7_takeClause, 2, none, { frames := 2, cells := 0, slots := 0, locals := 51 })
abbrev mX7_library : rf_Me := (yX7_library, cX7_library, 3, (some .int), { frames := 3, cells := 0, slots := 0, locals := 72 })
abbrev mX7_fault : rf_Me := (yX7_fault, cX7_fault, 1, (some .int), { frames := 0, cells := 0, slots := 0, locals := 0 })
abbrev mX7_isLine : rf_Me := (yX7_isLine, cX7_isLine, 2, (some .boolean), { frames := 1, cells := 0, slots := 0, locals := 25 })
abbrev mX7_isReader : rf_Me := (yX7_isReader, cX7_isReader, 2, (some .boolean), { frames := 1, cells := 0, slots := 0, locals := 25 })
abbrev mX7_isPage : rf_Me := (yX7_isPage, cX7_isPage, 2, (some .boolean), { frames := 1, cells := 0, slots := 0, locals := 25 })
abbrev mX7_copyRow : rf_Me := (yX7_copyRow, cX7_copyRow, 4, none, { frames := 0, cells := 0, slots := 0, locals := 0 })
abbrev mX7_isKeptLine : rf_Me := (yX7_isKeptLine, cX7_isKeptLine, 5, (some .boolean), { frames := 0, cells := 0, slots := 0, locals := 0 })
abbrev mX7_keptMany : rf_Me := (yX7_keptMany, cX7_keptMany, 4, (some .int), { frames := 1, cells := 0, slots := 0, locals := 24 })
abbrev mX7_told : rf_Me := (yX7_told, cX7_told, 2, (some .int), { frames := 2, cells := 0, slots := 0, locals := 47 })
abbrev mX7_pagesOf : rf_Me := (yX7_pagesOf, cX7_pagesOf, 4, (some .int), { frames := 1, cells := 0, slots := 0, locals := 20 })
abbrev mX7_knowers : rf_Me := (yX7_knowers, cX7_knowers, 4, (some .int), { frames := 1, cells := 0, slots := 0, locals := 20 })
abbrev mX7_votesFor : rf_Me := (yX7_votesFor, cX7_votesFor, 5, (some .int), { frames := 1, cells := 0, slots := 0, locals := 20 })
abbrev mX7_vote : rf_Me := (yX7_vote, cX7_vote, 5, (some .int), { frames := 2, cells := 0, slots := 0, locals := 44 })
abbrev mX7_line : rf_Me := (yX7_line, cX7_line, 3, (some .int), { frames := 3, cells := 0, slots := 0, locals := 68 })
abbrev mX7_knownBy : rf_Me := (yX7_knownBy, cX7_knownBy, 4, (some .int), { frames := 1, cells := 0, slots := 0, locals := 20 })
abbrev mX7_reader : rf_Me := (yX7_reader, cX7_reader, 3, (some .int), { frames := 2, cells := 0, slots := 0, locals := 46 })
abbrev mX7_readMany : rf_Me := (yX7_readMany, cX7_readMany, 4, (some .int), { frames := 1, cells := 0, slots := 0, locals := 20 })
abbrev mX7_page : rf_Me := (yX7_page, cX7_page, 3, (some .int), { frames := 2, cells := 0, slots := 0, locals := 46 })
abbrev mX7_knows : rf_Me := (yX7_knows, cX7_knows, 4, (some .int), { frames := 2, cells := 0, slots := 0, locals := 46 })
abbrev mX7_reading : rf_Me := (yX7_reading, cX7_reading, 3, (some .int), { frames := 1, cells := 0, slots := 0, locals := 25 })
abbrev mX7_know : rf_Me := (yX7_know, cX7_know, 5, none, { frames := 0, cells := 0, slots := 0, locals := 0 })
abbrev mX7_readPage : rf_Me := (yX7_readPage, cX7_readPage, 5, none, { frames := 1, cells := 0, slots := 0, locals := 24 })
abbrev mX7_read : rf_Me := (yX7_read, cX7_read, 3, (some .int), { frames := 2, cells := 0, slots := 0, locals := 48 })
abbrev mX7_draw : rf_Me := (yX7_draw, cX7_draw, 3, (some .int), { frames := 0, cells := 0, slots := 0, locals := 0 })
abbrev mX7_make : rf_Me := (yX7_make, cX7_make, 5, (some .int), { frames := 1, cells := 0, slots := 0, locals := 22 })
abbrev mX7_copy : rf_Me := (yX7_copy, cX7_copy, 3, (some .int), { frames := 2, cells := 0, slots := 0, locals := 48 })
abbrev mX7_write : rf_Me := (yX7_write, cX7_write, 4, (some .int), { frames := 2, cells := 0, slots := 0, locals := 46 })
abbrev mX7_teach : rf_Me := (yX7_teach, cX7_teach, 5, (some .int), { frames := 2, cells := 0, slots := 0, locals := 46 })
abbrev mX7_darken : rf_Me := (yX7_darken, cX7_darken, 5, none, { frames := 0, cells := 0, slots := 0, locals := 0 })
abbrev mX7_dusk : rf_Me := (yX7_dusk, cX7_dusk, 3, (some .int), { frames := 1, cells := 0, slots := 0, locals := 25 })
abbrev mX7_runDays : rf_Me := (yX7_runDays, cX7_runDays, 6, none, { frames := 2, cells := 0, slots := 0, locals := 48 })
abbrev mX7_run : rf_Me := (yX7_run, cX7_run, 4, (some .int), { frames := 3, cells := 0, slots := 0, locals := 73 })
abbrev mX7_where : rf_Me := (yX7_where, cX7_where, 3, (some .int), { frames := 2, cells := 0, slots := 0, locals := 46 })
abbrev mX7_request : rf_Me := (yX7_request, cX7_request, 4, (some .int), { frames := 2, cells := 0, slots := 0, locals := 46 })
abbrev mX7_forget : rf_Me := (yX7_forget, cX7_forget, 2, (some .int), { frames := 0, cells := 0, slots := 0, locals := 0 })
abbrev mX7_palest : rf_Me := (yX7_palest, cX7_palest, 5, (some .int), { frames := 0, cells := 0, slots := 0, locals := 0 })
abbrev mX7_grantAll : rf_Me := (yX7_grantAll, cX7_grantAll, 6, (some .int), { frames := 2, cells := 0, slots := 0, locals := 48 })
abbrev mX7_grant : rf_Me := (yX7_grant, cX7_grant, 2, (some .int), { frames := 3, cells := 0, slots := 0, locals := 73 })
abbrev mX7_sumBy : rf_Me := (yX7_sumBy, cX7_sumBy, 6, (some .int), { frames := 3, cells := 0, slots := 0, locals := 73 })
abbrev mX7_best : rf_Me := (yX7_best, cX7_best, 8, (some .int), { frames := 4, cells := 0, slots := 0, locals := 98 })
abbrev mX7_isTrue : rf_Me := (yX7_isTrue, cX7_isTrue, 3, (some .boolean), { frames := 0, cells := 0, slots := 0, locals := 0 })
abbrev mX7_lesser : rf_Me := (yX7_lesser, cX7_lesser, 3, (some .int), { frames := 0, cells := 0, slots := 0, locals := 0 })
abbrev mX7_fewest : rf_Me := (yX7_fewest, cX7_fewest, 11, (some .int), { frames := 1, cells := 0, slots := 0, locals := 22 })
abbrev mX7_toKnow : rf_Me := (yX7_toKnow, cX7_toKnow, 6, (some .int), { frames := 2, cells := 0, slots := 0, locals := 52 })
abbrev mX7_life : rf_Me := (yX7_life, cX7_life, 7, (some .int), { frames := 1, cells := 0, slots := 0, locals := 25 })
abbrev mX7_right : rf_Me := (yX7_right, cX7_right, 5, (some .int), { frames := 1, cells := 0, slots := 0, locals := 25 })
abbrev mX7_claim : rf_Me := (yX7_claim, cX7_claim, 9, (some .int), { frames := 2, cells := 0, slots := 0, locals := 46 })
abbrev mX7_whence : rf_Me := (yX7_whence, cX7_whence, 4, (some .int), { frames := 2, cells := 0, slots := 0, locals := 46 })
abbrev mX7_span : rf_Me := (yX7_span, cX7_span, 9, (some .int), { frames := 3, cells := 0, slots := 0, locals := 73 })
abbrev mX7_note : rf_Me := (yX7_note, cX7_note, 2, (some .int), { frames := 1, cells := 0, slots := 0, locals := 25 })
abbrev mX7_tear : rf_Me := (yX7_tear, cX7_tear, 2, (some .int), { frames := 0, cells := 0, slots := 0, locals := 0 })
abbrev mX7_judge : rf_Me := (yX7_judge, cX7_judge, 2, (some .int), { frames := 2, cells := 0, slots := 0, locals := 47 })
abbrev mX7_seed : rf_Me := (yX7_seed, cX7_seed, 3, (some .int), { frames := 0, cells := 0, slots := 0, locals := 0 })
abbrev mX7_keep : rf_Me := (yX7_keep, cX7_keep, 2, (some .int), { frames := 1, cells := 0, slots := 0, locals := 25 })
abbrev mX7_goBack : rf_Me := (yX7_goBack, cX7_goBack, 2, (some .int), { frames := 1, cells := 0, slots := 0, locals := 25 })
abbrev mJ6_bitCount_0f7a4 : rf_Me := (yJ6_bitCount_0f7a4, cJ6_bitCount_0f7a4, 1, (some .int), { frames := 0, cells := 0, slots := 0, locals := 0 })
abbrev mJ9_max_7cf53 : rf_Me := (yJ9_max_7cf53, cJ9_max_7cf53, 2, (some .int), { frames := 0, cells := 0, slots := 0, locals := 0 })
abbrev mJ9_min_7cf53 : rf_Me := (yJ9_min_7cf53, cJ9_min_7cf53, 2, (some .int), { frames := 0, cells := 0, slots := 0, locals := 0 })
abbrev mJ0_length_8abf5 : rf_Me := (yJ0_length_8abf5, cJ0_length_8abf5, 1, (some .int), { frames := 1, cells := 0, slots := 0, locals := 20 })
abbrev mJ0_charAt_5068e : rf_Me := (yJ0_charAt_5068e, cJ0_charAt_5068e, 2, (some .char), { frames := 4, cells := 0, slots := 0, locals := 85 })
abbrev mJ0_coder_7d493 : rf_Me := (yJ0_coder_7d493, cJ0_coder_7d493, 1, (some .byte), { frames := 0, cells := 0, slots := 0, locals := 0 })
abbrev mJ0_isLatin1_aae02 : rf_Me := (yJ0_isLatin1_aae02, cJ0_isLatin1_aae02, 1, (some .boolean), { frames := 0, cells := 0, slots := 0, locals := 0 })
abbrev mJ0_checkIndex_df160 : rf_Me := (yJ0_checkIndex_df160, cJ0_checkIndex_df160, 2, none, { frames := 1, cells := 0, slots := 0, locals := 22 })
abbrev mJ1_charAt_3b067 : rf_Me := (yJ1_charAt_3b067, cJ1_charAt_3b067, 2, (some .char), { frames := 2, cells := 0, slots := 0, locals := 43 })
abbrev mJ2_getChar_3b067 : rf_Me := (yJ2_getChar_3b067, cJ2_getChar_3b067, 2, (some .char), { frames := 1, cells := 0, slots := 0, locals := 20 })
abbrev mJ2_length_9d52b : rf_Me := (yJ2_length_9d52b, cJ2_length_9d52b, 1, (some .int), { frames := 0, cells := 0, slots := 0, locals := 0 })
abbrev mJ2_charAt_3b067 : rf_Me := (yJ2_charAt_3b067, cJ2_charAt_3b067, 2, (some .char), { frames := 3, cells := 0, slots := 0, locals := 64 })
abbrev mJ2_checkIndex_2214a : rf_Me := (yJ2_checkIndex_2214a, cJ2_checkIndex_2214a, 2, none, { frames := 2, cells := 0, slots := 0, locals := 43 })
abbrev mJ7_fill_53178 : rf_Me := (yJ7_fill_53178, cJ7_fill_53178, 4, none, { frames := 0, cells := 0, slots := 0, locals := 0 })
abbrev mJ3_checkIndex_8e157 : rf_Me := (yJ3_checkIndex_8e157, cJ3_checkIndex_8e157, 3, (some .int), { frames := 0, cells := 0, slots := 0, locals := 0 })
theorem fX0_7 : rf_fl RX0 7 0 0 := ⟨RX0, TX0, 3, rfl, by decide, iw_5 _ (List.mem_of_getElem? (i := 4) rfl), inlX0⟩
theorem pX0_7 : rf_fp RX0 7 0 0 .int := ⟨RX0, TX0, 3, tyX0, rfl, by decide, iw_5 _ (List.mem_of_getElem? (i := 4) rfl), inlX0, tyX0_ok, nmX0, rfl, rfl⟩
theorem fX0_13 : rf_fl RX0 13 0 1 := ⟨RX0, TX0, 3, rfl, by decide, iw_5 _ (List.mem_of_getElem? (i := 5) rfl), inlX0⟩
theorem pX0_13 : rf_fp RX0 13 0 1 .int := ⟨RX0, TX0, 3, tyX0, rfl, by decide, iw_5 _ (List.mem_of_getElem? (i := 5) rfl), inlX0, tyX0_ok, nmX0, rfl, rfl⟩
theorem fX0_16 : rf_fl RX0 16 0 2 := ⟨RX0, TX0, 3, rfl, by decide, iw_5 _ (List.mem_of_getElem? (i := 6) rfl), inlX0⟩
theorem pX0_16 : rf_fp RX0 16 0 2 .int := ⟨RX0, TX0, 3, tyX0, rfl, by decide, iw_5 _ (List.mem_of_getElem? (i := 6) rfl), inlX0, tyX0_ok, nmX0, rfl, rfl⟩
theorem fX1_9 : rf_fl RX1 9 1 0 := ⟨RX1, TX1, 8, rfl, by decide, iw_3 _ (List.mem_of_getElem? (i := 4) rfl), inlX1⟩
theorem fX1_15 : rf_fl RX1 15 1 1 := ⟨RX1, TX1, 8, rfl, by decide, iw_3 _ (List.mem_of_getElem? (i := 5) rfl), inlX1⟩
theorem fX1_18 : rf_fl RX1 18 1 2 := ⟨RX1, TX1, 8, rfl, by decide, iw_3 _ (List.mem_of_getElem? (i := 6) rfl), inlX1⟩
theorem fX1_21 : rf_fl RX1 21 1 3 := ⟨RX1, TX1, 8, rfl, by decide, iw_3 _ (List.mem_of_getElem? (i := 7) rfl), inlX1⟩
theorem fX1_24 : rf_fl RX1 24 1 4 := ⟨RX1, TX1, 8, rfl, by decide, iw_3 _ (List.mem_of_getElem? (i := 8) rfl), inlX1⟩
theorem pX1_24 : rf_fp RX1 24 1 4 .int := ⟨RX1, TX1, 8, tyX1, rfl, by decide, iw_3 _ (List.mem_of_getElem? (i := 8) rfl), inlX1, tyX1_ok, nmX1, rfl, rfl⟩
theorem fX1_28 : rf_fl RX1 28 1 5 := ⟨RX1, TX1, 8, rfl, by decide, iw_3 _ (List.mem_of_getElem? (i := 9) rfl), inlX1⟩
theorem pX1_28 : rf_fp RX1 28 1 5 .int := ⟨RX1, TX1, 8, tyX1, rfl, by decide, iw_3 _ (List.mem_of_getElem? (i := 9) rfl), inlX1, tyX1_ok, nmX1, rfl, rfl⟩
theorem fX1_31 : rf_fl RX1 31 1 6 := ⟨RX1, TX1, 8, rfl, by decide, iw_3 _ (List.mem_of_getElem? (i := 10) rfl), inlX1⟩
theorem pX1_31 : rf_fp RX1 31 1 6 .int := ⟨RX1, TX1, 8, tyX1, rfl, by decide, iw_3 _ (List.mem_of_getElem? (i := 10) rfl), inlX1, tyX1_ok, nmX1, rfl, rfl⟩
theorem fX1_34 : rf_fl RX1 34 1 7 := ⟨RX1, TX1, 8, rfl, by decide, iw_3 _ (List.mem_of_getElem? (i := 11) rfl), inlX1⟩
theorem pX1_34 : rf_fp RX1 34 1 7 .boolean := ⟨RX1, TX1, 8, tyX1, rfl, by decide, iw_3 _ (List.mem_of_getElem? (i := 11) rfl), inlX1, tyX1_ok, nmX1, rfl, rfl⟩
theorem fX2_9 : rf_fl RX2 9 2 0 := ⟨RX2, TX2, 4, rfl, by decide, iw_4 _ (List.mem_of_getElem? (i := 10) rfl), inlX2⟩
theorem fX2_15 : rf_fl RX2 15 2 1 := ⟨RX2, TX2, 4, rfl, by decide, iw_4 _ (List.mem_of_getElem? (i := 11) rfl), inlX2⟩
theorem fX2_18 : rf_fl RX2 18 2 2 := ⟨RX2, TX2, 4, rfl, by decide, iw_4 _ (List.mem_of_getElem? (i := 12) rfl), inlX2⟩
theorem fX2_21 : rf_fl RX2 21 2 3 := ⟨RX2, TX2, 4, rfl, by decide, iw_4 _ (List.mem_of_getElem? (i := 13) rfl), inlX2⟩
theorem pX2_21 : rf_fp RX2 21 2 3 .int := ⟨RX2, TX2, 4, tyX2, rfl, by decide, iw_4 _ (List.mem_of_getElem? (i := 13) rfl), inlX2, tyX2_ok, nmX2, rfl, rfl⟩
theorem fX3_9 : rf_fl RX3 9 3 0 := ⟨RX3, TX3, 4, rfl, by decide, iw_4 _ (List.mem_of_getElem? (i := 21) rfl), inlX3⟩
theorem fX3_15 : rf_fl RX3 15 3 1 := ⟨RX3, TX3, 4, rfl, by decide, iw_4 _ (List.mem_of_getElem? (i := 22) rfl), inlX3⟩
theorem fX3_18 : rf_fl RX3 18 3 2 := ⟨RX3, TX3, 4, rfl, by decide, iw_4 _ (List.mem_of_getElem? (i := 23) rfl), inlX3⟩
theorem fX3_21 : rf_fl RX3 21 3 3 := ⟨RX3, TX3, 4, rfl, by decide, iw_5 _ (List.mem_of_getElem? (i := 0) rfl), inlX3⟩
theorem pX3_21 : rf_fp RX3 21 3 3 .int := ⟨RX3, TX3, 4, tyX3, rfl, by decide, iw_5 _ (List.mem_of_getElem? (i := 0) rfl), inlX3, tyX3_ok, nmX3, rfl, rfl⟩
theorem fX4_9 : rf_fl RX4 9 4 0 := ⟨RX4, TX4, 5, rfl, by decide, iw_2 _ (List.mem_of_getElem? (i := 20) rfl), inlX4⟩
theorem fX4_15 : rf_fl RX4 15 4 1 := ⟨RX4, TX4, 5, rfl, by decide, iw_2 _ (List.mem_of_getElem? (i := 21) rfl), inlX4⟩
theorem pX4_15 : rf_fp RX4 15 4 1 .int := ⟨RX4, TX4, 5, tyX4, rfl, by decide, iw_2 _ (List.mem_of_getElem? (i := 21) rfl), inlX4, tyX4_ok, nmX4, rfl, rfl⟩
theorem fX4_19 : rf_fl RX4 19 4 2 := ⟨RX4, TX4, 5, rfl, by decide, iw_2 _ (List.mem_of_getElem? (i := 22) rfl), inlX4⟩
theorem pX4_19 : rf_fp RX4 19 4 2 .int := ⟨RX4, TX4, 5, tyX4, rfl, by decide, iw_2 _ (List.mem_of_getElem? (i := 22) rfl), inlX4, tyX4_ok, nmX4, rfl, rfl⟩
theorem pX4_22 : rf_fp RX4 22 4 3 .int := ⟨RX4, TX4, 5, tyX4, rfl, by decide, iw_2 _ (List.mem_of_getElem? (i := 23) rfl), inlX4, tyX4_ok, nmX4, rfl, rfl⟩
theorem fX4_25 : rf_fl RX4 25 4 4 := ⟨RX4, TX4, 5, rfl, by decide, iw_3 _ (List.mem_of_getElem? (i := 0) rfl), inlX4⟩
theorem pX4_25 : rf_fp RX4 25 4 4 .int := ⟨RX4, TX4, 5, tyX4, rfl, by decide, iw_3 _ (List.mem_of_getElem? (i := 0) rfl), inlX4, tyX4_ok, nmX4, rfl, rfl⟩
theorem fX4_68 : rf_fl RX4 68 1 4 := ⟨RX1, TX1, 8, rfl, by decide, iw_10 _ (List.mem_of_getElem? (i := 14) rfl), inlX1⟩
theorem fX4_81 : rf_fl RX4 81 1 5 := ⟨RX1, TX1, 8, rfl, by decide, iw_11 _ (List.mem_of_getElem? (i := 14) rfl), inlX1⟩
theorem fX4_90 : rf_fl RX4 90 1 7 := ⟨RX1, TX1, 8, rfl, by decide, iw_12 _ (List.mem_of_getElem? (i := 3) rfl), inlX1⟩
theorem fX5_12 : rf_fl RX5 12 5 1 := ⟨RX5, TX5, 12, rfl, by decide, iw_3 _ (List.mem_of_getElem? (i := 19) rfl), inlX5⟩
theorem fX5_18 : rf_fl RX5 18 5 2 := ⟨RX5, TX5, 12, rfl, by decide, iw_3 _ (List.mem_of_getElem? (i := 20) rfl), inlX5⟩
theorem fX5_22 : rf_fl RX5 22 5 3 := ⟨RX5, TX5, 12, rfl, by decide, iw_3 _ (List.mem_of_getElem? (i := 21) rfl), inlX5⟩
theorem fX5_25 : rf_fl RX5 25 5 4 := ⟨RX5, TX5, 12, rfl, by decide, iw_3 _ (List.mem_of_getElem? (i := 22) rfl), inlX5⟩
theorem fX5_28 : rf_fl RX5 28 5 5 := ⟨RX5, TX5, 12, rfl, by decide, iw_3 _ (List.mem_of_getElem? (i := 23) rfl), inlX5⟩
theorem fX5_31 : rf_fl RX5 31 5 6 := ⟨RX5, TX5, 12, rfl, by decide, iw_4 _ (List.mem_of_getElem? (i := 0) rfl), inlX5⟩
theorem fX5_34 : rf_fl RX5 34 5 7 := ⟨RX5, TX5, 12, rfl, by decide, iw_4 _ (List.mem_of_getElem? (i := 1) rfl), inlX5⟩
theorem fX5_37 : rf_fl RX5 37 5 8 := ⟨RX5, TX5, 12, rfl, by decide, iw_4 _ (List.mem_of_getElem? (i := 2) rfl), inlX5⟩
theorem fX5_40 : rf_fl RX5 40 5 9 := ⟨RX5, TX5, 12, rfl, by decide, iw_4 _ (List.mem_of_getElem? (i := 3) rfl), inlX5⟩
theorem pX5_40 : rf_fp RX5 40 5 9 .int := ⟨RX5, TX5, 12, tyX5, rfl, by decide, iw_4 _ (List.mem_of_getElem? (i := 3) rfl), inlX5, tyX5_ok, nmX5, rfl, rfl⟩
theorem fX5_44 : rf_fl RX5 44 5 10 := ⟨RX5, TX5, 12, rfl, by decide, iw_4 _ (List.mem_of_getElem? (i := 4) rfl), inlX5⟩
theorem pX5_44 : rf_fp RX5 44 5 10 .int := ⟨RX5, TX5, 12, tyX5, rfl, by decide, iw_4 _ (List.mem_of_getElem? (i := 4) rfl), inlX5, tyX5_ok, nmX5, rfl, rfl⟩
theorem fX5_47 : rf_fl RX5 47 5 11 := ⟨RX5, TX5, 12, rfl, by decide, iw_4 _ (List.mem_of_getElem? (i := 5) rfl), inlX5⟩
theorem pX5_47 : rf_fp RX5 47 5 11 .int := ⟨RX5, TX5, 12, tyX5, rfl, by decide, iw_4 _ (List.mem_of_getElem? (i := 5) rfl), inlX5, tyX5_ok, nmX5, rfl, rfl⟩
theorem fX5_50 : rf_fl RX5 50 5 0 := ⟨RX5, TX5, 12, rfl, by decide, iw_4 _ (List.mem_of_getElem? (i := 6) rfl), inlX5⟩
theorem fX5_60 : rf_fl RX5 60 1 4 := ⟨RX1, TX1, 8, rfl, by decide, iw_12 _ (List.mem_of_getElem? (i := 20) rfl), inlX1⟩
theorem fX5_65 : rf_fl RX5 65 1 1 := ⟨RX1, TX1, 8, rfl, by decide, iw_12 _ (List.mem_of_getElem? (i := 21) rfl), inlX1⟩
theorem fX5_68 : rf_fl RX5 68 2 3 := ⟨RX2, TX2, 4, rfl, by decide, iw_12 _ (List.mem_of_getElem? (i := 22) rfl), inlX2⟩
theorem pX5_68 : rf_fp RX5 68 2 3 .int := ⟨RX2, TX2, 4, tyX2, rfl, by decide, iw_12 _ (List.mem_of_getElem? (i := 22) rfl), inlX2, tyX2_ok, nmX2, rfl, rfl⟩
theorem fX5_89 : rf_fl RX5 89 1 3 := ⟨RX1, TX1, 8, rfl, by decide, iw_17 _ (List.mem_of_getElem? (i := 4) rfl), inlX1⟩
theorem fX5_106 : rf_fl RX5 106 1 2 := ⟨RX1, TX1, 8, rfl, by decide, iw_24 _ (List.mem_of_getElem? (i := 21) rfl), inlX1⟩
theorem fX5_112 : rf_fl RX5 112 1 5 := ⟨RX1, TX1, 8, rfl, by decide, iw_16 _ (List.mem_of_getElem? (i := 3) rfl), inlX1⟩
theorem fX5_124 : rf_fl RX5 124 1 6 := ⟨RX1, TX1, 8, rfl, by decide, iw_26 _ (List.mem_of_getElem? (i := 8) rfl), inlX1⟩
theorem fX5_183 : rf_fl RX5 183 2 1 := ⟨RX2, TX2, 4, rfl, by decide, iw_37 _ (List.mem_of_getElem? (i := 9) rfl), inlX2⟩
theorem fX5_185 : rf_fl RX5 185 2 0 := ⟨RX2, TX2, 4, rfl, by decide, iw_37 _ (List.mem_of_getElem? (i := 10) rfl), inlX2⟩
theorem fX5_188 : rf_fl RX5 188 2 2 := ⟨RX2, TX2, 4, rfl, by decide, iw_37 _ (List.mem_of_getElem? (i := 11) rfl), inlX2⟩
theorem fX6_10 : rf_fl RX6 10 6 0 := ⟨RX6, TX6, 12, rfl, by decide, iw_1 _ (List.mem_of_getElem? (i := 16) rfl), inlX6⟩
theorem fX6_19 : rf_fl RX6 19 6 1 := ⟨RX6, TX6, 12, rfl, by decide, iw_1 _ (List.mem_of_getElem? (i := 20) rfl), inlX6⟩
theorem fX6_23 : rf_fl RX6 23 6 2 := ⟨RX6, TX6, 12, rfl, by decide, iw_1 _ (List.mem_of_getElem? (i := 21) rfl), inlX6⟩
theorem fX6_31 : rf_fl RX6 31 6 3 := ⟨RX6, TX6, 12, rfl, by decide, iw_2 _ (List.mem_of_getElem? (i := 1) rfl), inlX6⟩
theorem fX6_35 : rf_fl RX6 35 6 4 := ⟨RX6, TX6, 12, rfl, by decide, iw_2 _ (List.mem_of_getElem? (i := 2) rfl), inlX6⟩
theorem fX6_38 : rf_fl RX6 38 6 5 := ⟨RX6, TX6, 12, rfl, by decide, iw_2 _ (List.mem_of_getElem? (i := 3) rfl), inlX6⟩
theorem fX6_42 : rf_fl RX6 42 6 6 := ⟨RX6, TX6, 12, rfl, by decide, iw_2 _ (List.mem_of_getElem? (i := 4) rfl), inlX6⟩
theorem pX6_42 : rf_fp RX6 42 6 6 .int := ⟨RX6, TX6, 12, tyX6, rfl, by decide, iw_2 _ (List.mem_of_getElem? (i := 4) rfl), inlX6, tyX6_ok, nmX6, rfl, rfl⟩
theorem fX6_49 : rf_fl RX6 49 6 7 := ⟨RX6, TX6, 12, rfl, by decide, iw_2 _ (List.mem_of_getElem? (i := 8) rfl), inlX6⟩
theorem fX6_56 : rf_fl RX6 56 6 8 := ⟨RX6, TX6, 12, rfl, by decide, iw_2 _ (List.mem_of_getElem? (i := 12) rfl), inlX6⟩
theorem fX6_60 : rf_fl RX6 60 6 9 := ⟨RX6, TX6, 12, rfl, by decide, iw_2 _ (List.mem_of_getElem? (i := 14) rfl), inlX6⟩
theorem fX6_64 : rf_fl RX6 64 6 10 := ⟨RX6, TX6, 12, rfl, by decide, iw_2 _ (List.mem_of_getElem? (i := 15) rfl), inlX6⟩
theorem pX6_64 : rf_fp RX6 64 6 10 .int := ⟨RX6, TX6, 12, tyX6, rfl, by decide, iw_2 _ (List.mem_of_getElem? (i := 15) rfl), inlX6, tyX6_ok, nmX6, rfl, rfl⟩
theorem fX6_67 : rf_fl RX6 67 6 11 := ⟨RX6, TX6, 12, rfl, by decide, iw_2 _ (List.mem_of_getElem? (i := 16) rfl), inlX6⟩
theorem fX6_71 : rf_fl RX6 71 4 1 := ⟨RX4, TX4, 5, rfl, by decide, iw_6 _ (List.mem_of_getElem? (i := 8) rfl), inlX4⟩
theorem pX6_71 : rf_fp RX6 71 4 1 .int := ⟨RX4, TX4, 5, tyX4, rfl, by decide, iw_6 _ (List.mem_of_getElem? (i := 8) rfl), inlX4, tyX4_ok, nmX4, rfl, rfl⟩
theorem fX6_82 : rf_fl RX6 82 4 2 := ⟨RX4, TX4, 5, rfl, by decide, iw_7 _ (List.mem_of_getElem? (i := 6) rfl), inlX4⟩
theorem fX6_91 : rf_fl RX6 91 3 3 := ⟨RX3, TX3, 4, rfl, by decide, iw_7 _ (List.mem_of_getElem? (i := 7) rfl), inlX3⟩
theorem pX6_91 : rf_fp RX6 91 3 3 .int := ⟨RX3, TX3, 4, tyX3, rfl, by decide, iw_7 _ (List.mem_of_getElem? (i := 7) rfl), inlX3, tyX3_ok, nmX3, rfl, rfl⟩
theorem fX6_94 : rf_fl RX6 94 1 4 := ⟨RX1, TX1, 8, rfl, by decide, iw_7 _ (List.mem_of_getElem? (i := 8) rfl), inlX1⟩
theorem fX6_97 : rf_fl RX6 97 4 3 := ⟨RX4, TX4, 5, rfl, by decide, iw_15 _ (List.mem_of_getElem? (i := 4) rfl), inlX4⟩
theorem fX6_100 : rf_fl RX6 100 1 5 := ⟨RX1, TX1, 8, rfl, by decide, iw_15 _ (List.mem_of_getElem? (i := 13) rfl), inlX1⟩
theorem fX6_103 : rf_fl RX6 103 5 9 := ⟨RX5, TX5, 12, rfl, by decide, iw_15 _ (List.mem_of_getElem? (i := 14) rfl), inlX5⟩
theorem fX6_106 : rf_fl RX6 106 5 1 := ⟨RX5, TX5, 12, rfl, by decide, iw_15 _ (List.mem_of_getElem? (i := 15) rfl), inlX5⟩
theorem fX6_110 : rf_fl RX6 110 2 3 := ⟨RX2, TX2, 4, rfl, by decide, iw_15 _ (List.mem_of_getElem? (i := 16) rfl), inlX2⟩
theorem fX6_113 : rf_fl RX6 113 5 10 := ⟨RX5, TX5, 12, rfl, by decide, iw_15 _ (List.mem_of_getElem? (i := 17) rfl), inlX5⟩
theorem fX6_116 : rf_fl RX6 116 1 6 := ⟨RX1, TX1, 8, rfl, by decide, iw_15 _ (List.mem_of_getElem? (i := 18) rfl), inlX1⟩
theorem fX6_128 : rf_fl RX6 128 1 0 := ⟨RX1, TX1, 8, rfl, by decide, iw_18 _ (List.mem_of_getElem? (i := 8) rfl), inlX1⟩
theorem fX6_144 : rf_fl RX6 144 5 8 := ⟨RX5, TX5, 12, rfl, by decide, iw_18 _ (List.mem_of_getElem? (i := 9) rfl), inlX5⟩
theorem fX6_150 : rf_fl RX6 150 1 2 := ⟨RX1, TX1, 8, rfl, by decide, iw_21 _ (List.mem_of_getElem? (i := 8) rfl), inlX1⟩
theorem fX6_153 : rf_fl RX6 153 1 3 := ⟨RX1, TX1, 8, rfl, by decide, iw_21 _ (List.mem_of_getElem? (i := 9) rfl), inlX1⟩
theorem fX6_162 : rf_fl RX6 162 5 2 := ⟨RX5, TX5, 12, rfl, by decide, iw_22 _ (List.mem_of_getElem? (i := 10) rfl), inlX5⟩
theorem fX6_165 : rf_fl RX6 165 5 3 := ⟨RX5, TX5, 12, rfl, by decide, iw_22 _ (List.mem_of_getElem? (i := 11) rfl), inlX5⟩
theorem fX6_168 : rf_fl RX6 168 5 4 := ⟨RX5, TX5, 12, rfl, by decide, iw_22 _ (List.mem_of_getElem? (i := 12) rfl), inlX5⟩
theorem fX6_184 : rf_fl RX6 184 2 0 := ⟨RX2, TX2, 4, rfl, by decide, iw_24 _ (List.mem_of_getElem? (i := 0) rfl), inlX2⟩
theorem fX6_187 : rf_fl RX6 187 2 1 := ⟨RX2, TX2, 4, rfl, by decide, iw_24 _ (List.mem_of_getElem? (i := 1) rfl), inlX2⟩
theorem fX6_189 : rf_fl RX6 189 2 2 := ⟨RX2, TX2, 4, rfl, by decide, iw_24 _ (List.mem_of_getElem? (i := 2) rfl), inlX2⟩
theorem fX6_240 : rf_fl RX6 240 0 0 := ⟨RX0, TX0, 3, rfl, by decide, iw_32 _ (List.mem_of_getElem? (i := 19) rfl), inlX0⟩
theorem fX6_243 : rf_fl RX6 243 0 1 := ⟨RX0, TX0, 3, rfl, by decide, iw_32 _ (List.mem_of_getElem? (i := 20) rfl), inlX0⟩
theorem fX6_246 : rf_fl RX6 246 0 2 := ⟨RX0, TX0, 3, rfl, by decide, iw_32 _ (List.mem_of_getElem? (i := 21) rfl), inlX0⟩
theorem fX6_301 : rf_fl RX6 301 5 11 := ⟨RX5, TX5, 12, rfl, by decide, iw_38 _ (List.mem_of_getElem? (i := 9) rfl), inlX5⟩
theorem pX6_301 : rf_fp RX6 301 5 11 .int := ⟨RX5, TX5, 12, tyX5, rfl, by decide, iw_38 _ (List.mem_of_getElem? (i := 9) rfl), inlX5, tyX5_ok, nmX5, rfl, rfl⟩
theorem fX7_7 : rf_fl RX7 7 7 0 := ⟨RX7, TX7, 25, rfl, by decide, iw_5 _ (List.mem_of_getElem? (i := 11) rfl), inlX7⟩
theorem fX7_13 : rf_fl RX7 13 7 1 := ⟨RX7, TX7, 25, rfl, by decide, iw_5 _ (List.mem_of_getElem? (i := 13) rfl), inlX7⟩
theorem fX7_17 : rf_fl RX7 17 7 2 := ⟨RX7, TX7, 25, rfl, by decide, iw_5 _ (List.mem_of_getElem? (i := 14) rfl), inlX7⟩
theorem fX7_20 : rf_fl RX7 20 7 3 := ⟨RX7, TX7, 25, rfl, by decide, iw_5 _ (List.mem_of_getElem? (i := 15) rfl), inlX7⟩
theorem fX7_23 : rf_fl RX7 23 7 4 := ⟨RX7, TX7, 25, rfl, by decide, iw_5 _ (List.mem_of_getElem? (i := 16) rfl), inlX7⟩
theorem fX7_26 : rf_fl RX7 26 7 5 := ⟨RX7, TX7, 25, rfl, by decide, iw_5 _ (List.mem_of_getElem? (i := 17) rfl), inlX7⟩
theorem fX7_29 : rf_fl RX7 29 7 6 := ⟨RX7, TX7, 25, rfl, by decide, iw_5 _ (List.mem_of_getElem? (i := 18) rfl), inlX7⟩
theorem fX7_32 : rf_fl RX7 32 7 7 := ⟨RX7, TX7, 25, rfl, by decide, iw_5 _ (List.mem_of_getElem? (i := 19) rfl), inlX7⟩
theorem pX7_32 : rf_fp RX7 32 7 7 .int := ⟨RX7, TX7, 25, tyX7, rfl, by decide, iw_5 _ (List.mem_of_getElem? (i := 19) rfl), inlX7, tyX7_ok, nmX7, rfl, rfl⟩
theorem fX7_36 : rf_fl RX7 36 7 10 := ⟨RX7, TX7, 25, rfl, by decide, iw_5 _ (List.mem_of_getElem? (i := 20) rfl), inlX7⟩
theorem fX7_39 : rf_fl RX7 39 7 16 := ⟨RX7, TX7, 25, rfl, by decide, iw_5 _ (List.mem_of_getElem? (i := 21) rfl), inlX7⟩
theorem pX7_39 : rf_fp RX7 39 7 16 .int := ⟨RX7, TX7, 25, tyX7, rfl, by decide, iw_5 _ (List.mem_of_getElem? (i := 21) rfl), inlX7, tyX7_ok, nmX7, rfl, rfl⟩
theorem fX7_42 : rf_fl RX7 42 7 18 := ⟨RX7, TX7, 25, rfl, by decide, iw_5 _ (List.mem_of_getElem? (i := 22) rfl), inlX7⟩
theorem fX7_45 : rf_fl RX7 45 7 19 := ⟨RX7, TX7, 25, rfl, by decide, iw_5 _ (List.mem_of_getElem? (i := 23) rfl), inlX7⟩
theorem fX7_48 : rf_fl RX7 48 7 20 := ⟨RX7, TX7, 25, rfl, by decide, iw_6 _ (List.mem_of_getElem? (i := 0) rfl), inlX7⟩
theorem fX7_51 : rf_fl RX7 51 7 22 := ⟨RX7, TX7, 25, rfl, by decide, iw_6 _ (List.mem_of_getElem? (i := 1) rfl), inlX7⟩
theorem fX7_54 : rf_fl RX7 54 7 23 := ⟨RX7, TX7, 25, rfl, by decide, iw_6 _ (List.mem_of_getElem? (i := 2) rfl), inlX7⟩
theorem fX7_64 : rf_fl RX7 64 7 11 := ⟨RX7, TX7, 25, rfl, by decide, iw_6 _ (List.mem_of_getElem? (i := 20) rfl), inlX7⟩
theorem pX7_64 : rf_fp RX7 64 7 11 .int := ⟨RX7, TX7, 25, tyX7, rfl, by decide, iw_6 _ (List.mem_of_getElem? (i := 20) rfl), inlX7, tyX7_ok, nmX7, rfl, rfl⟩
theorem fX7_70 : rf_fl RX7 70 7 12 := ⟨RX7, TX7, 25, rfl, by decide, iw_13 _ (List.mem_of_getElem? (i := 3) rfl), inlX7⟩
theorem pX7_70 : rf_fp RX7 70 7 12 .int := ⟨RX7, TX7, 25, tyX7, rfl, by decide, iw_13 _ (List.mem_of_getElem? (i := 3) rfl), inlX7, tyX7_ok, nmX7, rfl, rfl⟩
theorem fX7_73 : rf_fl RX7 73 7 15 := ⟨RX7, TX7, 25, rfl, by decide, iw_13 _ (List.mem_of_getElem? (i := 4) rfl), inlX7⟩
theorem pX7_73 : rf_fp RX7 73 7 15 .int := ⟨RX7, TX7, 25, tyX7, rfl, by decide, iw_13 _ (List.mem_of_getElem? (i := 4) rfl), inlX7, tyX7_ok, nmX7, rfl, rfl⟩
theorem fX7_80 : rf_fl RX7 80 7 13 := ⟨RX7, TX7, 25, rfl, by decide, iw_13 _ (List.mem_of_getElem? (i := 21) rfl), inlX7⟩
theorem pX7_80 : rf_fp RX7 80 7 13 .int := ⟨RX7, TX7, 25, tyX7, rfl, by decide, iw_13 _ (List.mem_of_getElem? (i := 21) rfl), inlX7, tyX7_ok, nmX7, rfl, rfl⟩
theorem fX7_87 : rf_fl RX7 87 7 14 := ⟨RX7, TX7, 25, rfl, by decide, iw_14 _ (List.mem_of_getElem? (i := 4) rfl), inlX7⟩
theorem pX7_87 : rf_fp RX7 87 7 14 .int := ⟨RX7, TX7, 25, tyX7, rfl, by decide, iw_14 _ (List.mem_of_getElem? (i := 4) rfl), inlX7, tyX7_ok, nmX7, rfl, rfl⟩
theorem fX7_113 : rf_fl RX7 113 7 9 := ⟨RX7, TX7, 25, rfl, by decide, iw_13 _ (List.mem_of_getElem? (i := 6) rfl), inlX7⟩
theorem pX7_113 : rf_fp RX7 113 7 9 .boolean := ⟨RX7, TX7, 25, tyX7, rfl, by decide, iw_13 _ (List.mem_of_getElem? (i := 6) rfl), inlX7, tyX7_ok, nmX7, rfl, rfl⟩
theorem fX7_117 : rf_fl RX7 117 7 8 := ⟨RX7, TX7, 25, rfl, by decide, iw_13 _ (List.mem_of_getElem? (i := 5) rfl), inlX7⟩
theorem pX7_117 : rf_fp RX7 117 7 8 .int := ⟨RX7, TX7, 25, tyX7, rfl, by decide, iw_13 _ (List.mem_of_getElem? (i := 5) rfl), inlX7, tyX7_ok, nmX7, rfl, rfl⟩
theorem fX7_131 : rf_fl RX7 131 7 17 := ⟨RX7, TX7, 25, rfl, by decide, iw_13 _ (List.mem_of_getElem? (i := 11) rfl), inlX7⟩
theorem pX7_131 : rf_fp RX7 131 7 17 .int := ⟨RX7, TX7, 25, tyX7, rfl, by decide, iw_13 _ (List.mem_of_getElem? (i := 11) rfl), inlX7, tyX7_ok, nmX7, rfl, rfl⟩
theorem fX7_134 : rf_fl RX7 134 7 24 := ⟨RX7, TX7, 25, rfl, by decide, iw_13 _ (List.mem_of_getElem? (i := 12) rfl), inlX7⟩
theorem pX7_134 : rf_fp RX7 134 7 24 .int := ⟨RX7, TX7, 25, tyX7, rfl, by decide, iw_13 _ (List.mem_of_getElem? (i := 12) rfl), inlX7, tyX7_ok, nmX7, rfl, rfl⟩
theorem fX7_232 : rf_fl RX7 232 7 21 := ⟨RX7, TX7, 25, rfl, by decide, iw_34 _ (List.mem_of_getElem? (i := 0) rfl), inlX7⟩
theorem pX7_232 : rf_fp RX7 232 7 21 .int := ⟨RX7, TX7, 25, tyX7, rfl, by decide, iw_34 _ (List.mem_of_getElem? (i := 0) rfl), inlX7, tyX7_ok, nmX7, rfl, rfl⟩
theorem kX1_38 : Cond.methodLink RX1 38 arraycopyName ∈ wsL_law := iw_12 _ (List.mem_of_getElem? (i := 12) rfl)
theorem kX2_25 : Cond.methodLink RX2 25 arraycopyName ∈ wsL_law := iw_40 _ (List.mem_of_getElem? (i := 17) rfl)
theorem kX3_30 : Cond.methodLink RX3 30 yX5_darkestPage ∈ wsL_law := iw_31 _ (List.mem_of_getElem? (i := 19) rfl)
theorem kX3_36 : Cond.methodLink RX3 36 yX5_readPage ∈ wsL_law := iw_31 _ (List.mem_of_getElem? (i := 23) rfl)
theorem kX4_28 : Cond.methodLink RX4 28 yX1_clear ∈ wsL_law := iw_7 _ (List.mem_of_getElem? (i := 13) rfl)
theorem kX4_33 : Cond.methodLink RX4 33 yX4_skipBlanks ∈ wsL_law := iw_7 _ (List.mem_of_getElem? (i := 17) rfl)
theorem kX4_36 : Cond.methodLink RX4 36 yX4_parseClause ∈ wsL_law := iw_7 _ (List.mem_of_getElem? (i := 21) rfl)
theorem kX4_40 : Cond.methodLink RX4 40 yX4_wordEnd ∈ wsL_law := iw_8 _ (List.mem_of_getElem? (i := 1) rfl)
theorem kX4_46 : Cond.methodLink RX4 46 yX4_spells ∈ wsL_law := iw_8 _ (List.mem_of_getElem? (i := 5) rfl)
theorem kX4_50 : Cond.methodLink RX4 50 yX4_parseLine ∈ wsL_law := iw_10 _ (List.mem_of_getElem? (i := 10) rfl)
theorem kX4_56 : Cond.methodLink RX4 56 yX4_parseReader ∈ wsL_law := iw_11 _ (List.mem_of_getElem? (i := 10) rfl)
theorem kX4_61 : Cond.methodLink RX4 61 yX4_parseError ∈ wsL_law := iw_11 _ (List.mem_of_getElem? (i := 23) rfl)
theorem kX4_64 : Cond.methodLink RX4 64 yX4_fail ∈ wsL_law := iw_10 _ (List.mem_of_getElem? (i := 15) rfl)
theorem kX4_71 : Cond.methodLink RX4 71 yX4_takeNumber ∈ wsL_law := iw_10 _ (List.mem_of_getElem? (i := 19) rfl)
theorem kX4_75 : Cond.methodLink RX4 75 yX4_takeEnd ∈ wsL_law := iw_11 _ (List.mem_of_getElem? (i := 2) rfl)
theorem kX4_78 : Cond.methodLink RX4 78 yX1_addLine ∈ wsL_law := iw_11 _ (List.mem_of_getElem? (i := 6) rfl)
theorem kX4_84 : Cond.methodLink RX4 84 yX4_takeKind ∈ wsL_law := iw_11 _ (List.mem_of_getElem? (i := 15) rfl)
theorem kX4_87 : Cond.methodLink RX4 87 yX1_addReader ∈ wsL_law := iw_11 _ (List.mem_of_getElem? (i := 19) rfl)
theorem kX4_94 : Cond.methodLink RX4 94 yX1_tellError ∈ wsL_law := iw_12 _ (List.mem_of_getElem? (i := 4) rfl)
theorem kX4_108 : Cond.methodLink RX4 108 yX4_isFigure ∈ wsL_law := iw_10 _ (List.mem_of_getElem? (i := 23) rfl)
theorem kX4_112 : Cond.methodLink RX4 112 yJ0_length_8abf5 ∈ wsL_law := iw_8 _ (List.mem_of_getElem? (i := 9) rfl)
theorem kX4_116 : Cond.methodLink RX4 116 yJ0_charAt_5068e ∈ wsL_law := iw_8 _ (List.mem_of_getElem? (i := 21) rfl)
theorem kX5_54 : Cond.methodLink RX5 54 yJ7_fill_53178 ∈ wsL_law := iw_4 _ (List.mem_of_getElem? (i := 14) rfl)
theorem kX5_71 : Cond.methodLink RX5 71 yX5_copyBooks ∈ wsL_law := iw_40 _ (List.mem_of_getElem? (i := 12) rfl)
theorem kX5_75 : Cond.methodLink RX5 75 arraycopyName ∈ wsL_law := iw_33 _ (List.mem_of_getElem? (i := 14) rfl)
theorem kX5_81 : Cond.methodLink RX5 81 yX2_copyFrom ∈ wsL_law := iw_40 _ (List.mem_of_getElem? (i := 13) rfl)
theorem kX5_85 : Cond.methodLink RX5 85 yX5_dayLearnt ∈ wsL_law := iw_17 _ (List.mem_of_getElem? (i := 5) rfl)
theorem kX5_92 : Cond.methodLink RX5 92 yX5_heart ∈ wsL_law := iw_17 _ (List.mem_of_getElem? (i := 9) rfl)
theorem kX5_95 : Cond.methodLink RX5 95 yX5_variantAt ∈ wsL_law := iw_17 _ (List.mem_of_getElem? (i := 0) rfl)
theorem kX5_99 : Cond.methodLink RX5 99 yX5_variantKnown ∈ wsL_law := iw_19 _ (List.mem_of_getElem? (i := 3) rfl)
theorem kX5_102 : Cond.methodLink RX5 102 yX2_add ∈ wsL_law := iw_24 _ (List.mem_of_getElem? (i := 22) rfl)
theorem kX5_109 : Cond.methodLink RX5 109 yX5_learn ∈ wsL_law := iw_25 _ (List.mem_of_getElem? (i := 2) rfl)
theorem kX5_115 : Cond.methodLink RX5 115 yX5_isFull ∈ wsL_law := iw_26 _ (List.mem_of_getElem? (i := 9) rfl)
theorem kX5_120 : Cond.methodLink RX5 120 yX5_draw ∈ wsL_law := iw_26 _ (List.mem_of_getElem? (i := 10) rfl)
theorem kX5_132 : Cond.methodLink RX5 132 yJ9_min_7cf53 ∈ wsL_law := iw_16 _ (List.mem_of_getElem? (i := 20) rfl)
theorem kX5_137 : Cond.methodLink RX5 137 yX5_daysAhead ∈ wsL_law := iw_16 _ (List.mem_of_getElem? (i := 16) rfl)
theorem kX5_140 : Cond.methodLink RX5 140 yX5_hasPage ∈ wsL_law := iw_29 _ (List.mem_of_getElem? (i := 3) rfl)
theorem kX5_144 : Cond.methodLink RX5 144 yX5_isGone ∈ wsL_law := iw_29 _ (List.mem_of_getElem? (i := 4) rfl)
theorem kX5_147 : Cond.methodLink RX5 147 yX5_readPage ∈ wsL_law := iw_29 _ (List.mem_of_getElem? (i := 5) rfl)
theorem kX5_151 : Cond.methodLink RX5 151 yX5_passDusks ∈ wsL_law := iw_29 _ (List.mem_of_getElem? (i := 6) rfl)
theorem kX5_155 : Cond.methodLink RX5 155 yX5_truePages ∈ wsL_law := iw_16 _ (List.mem_of_getElem? (i := 4) rfl)
theorem kX5_158 : Cond.methodLink RX5 158 yX5_isKept ∈ wsL_law := iw_15 _ (List.mem_of_getElem? (i := 23) rfl)
theorem kX5_162 : Cond.methodLink RX5 162 yX5_isLeft ∈ wsL_law := iw_16 _ (List.mem_of_getElem? (i := 12) rfl)
theorem kX5_165 : Cond.methodLink RX5 165 yX5_pagesLeftWith ∈ wsL_law := iw_16 _ (List.mem_of_getElem? (i := 8) rfl)
theorem kX5_168 : Cond.methodLink RX5 168 yX5_knowsAny ∈ wsL_law := iw_18 _ (List.mem_of_getElem? (i := 23) rfl)
theorem kX5_171 : Cond.methodLink RX5 171 yX5_knowersOf ∈ wsL_law := iw_19 _ (List.mem_of_getElem? (i := 20) rfl)
theorem kX5_174 : Cond.methodLink RX5 174 yX5_pagesLeft ∈ wsL_law := iw_19 _ (List.mem_of_getElem? (i := 11) rfl)
theorem kX5_177 : Cond.methodLink RX5 177 yX5_knowers ∈ wsL_law := iw_19 _ (List.mem_of_getElem? (i := 12) rfl)
theorem kX5_180 : Cond.methodLink RX5 180 yJ6_bitCount_0f7a4 ∈ wsL_law := iw_19 _ (List.mem_of_getElem? (i := 13) rfl)
theorem kX6_75 : Cond.methodLink RX6 75 yX4_append ∈ wsL_law := iw_6 _ (List.mem_of_getElem? (i := 10) rfl)
theorem kX6_79 : Cond.methodLink RX6 79 yX4_parseInto ∈ wsL_law := iw_7 _ (List.mem_of_getElem? (i := 9) rfl)
theorem kX6_85 : Cond.methodLink RX6 85 yX1_copyFrom ∈ wsL_law := iw_12 _ (List.mem_of_getElem? (i := 8) rfl)
theorem kX6_88 : Cond.methodLink RX6 88 yX5_open ∈ wsL_law := iw_12 _ (List.mem_of_getElem? (i := 16) rfl)
theorem kX6_119 : Cond.methodLink RX6 119 yX5_countKept ∈ wsL_law := iw_15 _ (List.mem_of_getElem? (i := 19) rfl)
theorem kX6_123 : Cond.methodLink RX6 123 yX1_hasLine ∈ wsL_law := iw_18 _ (List.mem_of_getElem? (i := 10) rfl)
theorem kX6_131 : Cond.methodLink RX6 131 yX5_isKept ∈ wsL_law := iw_18 _ (List.mem_of_getElem? (i := 14) rfl)
theorem kX6_135 : Cond.methodLink RX6 135 yX5_pagesLeft ∈ wsL_law := iw_18 _ (List.mem_of_getElem? (i := 15) rfl)
theorem kX6_138 : Cond.methodLink RX6 138 yX5_knowers ∈ wsL_law := iw_18 _ (List.mem_of_getElem? (i := 19) rfl)
theorem kX6_141 : Cond.methodLink RX6 141 yX5_voteOn ∈ wsL_law := iw_19 _ (List.mem_of_getElem? (i := 7) rfl)
theorem kX6_147 : Cond.methodLink RX6 147 yX1_hasReader ∈ wsL_law := iw_21 _ (List.mem_of_getElem? (i := 10) rfl)
theorem kX6_156 : Cond.methodLink RX6 156 yX5_linesKnown ∈ wsL_law := iw_21 _ (List.mem_of_getElem? (i := 14) rfl)
theorem kX6_159 : Cond.methodLink RX6 159 yX5_hasPage ∈ wsL_law := iw_22 _ (List.mem_of_getElem? (i := 13) rfl)
theorem kX6_171 : Cond.methodLink RX6 171 yX2_timesRead ∈ wsL_law := iw_22 _ (List.mem_of_getElem? (i := 17) rfl)
theorem kX6_174 : Cond.methodLink RX6 174 yX5_knowsAny ∈ wsL_law := iw_23 _ (List.mem_of_getElem? (i := 13) rfl)
theorem kX6_177 : Cond.methodLink RX6 177 yX5_variantKnown ∈ wsL_law := iw_23 _ (List.mem_of_getElem? (i := 14) rfl)
theorem kX6_181 : Cond.methodLink RX6 181 yX5_dayLearnt ∈ wsL_law := iw_23 _ (List.mem_of_getElem? (i := 15) rfl)
theorem kX6_191 : Cond.methodLink RX6 191 yX5_isGone ∈ wsL_law := iw_24 _ (List.mem_of_getElem? (i := 13) rfl)
theorem kX6_195 : Cond.methodLink RX6 195 yX5_readPage ∈ wsL_law := iw_24 _ (List.mem_of_getElem? (i := 17) rfl)
theorem kX6_199 : Cond.methodLink RX6 199 yX5_isFull ∈ wsL_law := iw_25 _ (List.mem_of_getElem? (i := 23) rfl)
theorem kX6_203 : Cond.methodLink RX6 203 yX5_addPage ∈ wsL_law := iw_26 _ (List.mem_of_getElem? (i := 3) rfl)
theorem kX6_207 : Cond.methodLink RX6 207 yX5_learn ∈ wsL_law := iw_27 _ (List.mem_of_getElem? (i := 21) rfl)
theorem kX6_211 : Cond.methodLink RX6 211 yX5_passDusks ∈ wsL_law := iw_28 _ (List.mem_of_getElem? (i := 6) rfl)
theorem kX6_214 : Cond.methodLink RX6 214 yX5_liveByDraws ∈ wsL_law := iw_28 _ (List.mem_of_getElem? (i := 23) rfl)
theorem kX6_217 : Cond.methodLink RX6 217 yX5_countGone ∈ wsL_law := iw_29 _ (List.mem_of_getElem? (i := 7) rfl)
theorem kX6_221 : Cond.methodLink RX6 221 yX5_firstPage ∈ wsL_law := iw_30 _ (List.mem_of_getElem? (i := 0) rfl)
theorem kX6_224 : Cond.methodLink RX6 224 yX3_add ∈ wsL_law := iw_30 _ (List.mem_of_getElem? (i := 12) rfl)
theorem kX6_227 : Cond.methodLink RX6 227 yX6_isSetOf ∈ wsL_law := iw_31 _ (List.mem_of_getElem? (i := 10) rfl)
theorem kX6_230 : Cond.methodLink RX6 230 yX3_fulfil ∈ wsL_law := iw_31 _ (List.mem_of_getElem? (i := 13) rfl)
theorem kX6_234 : Cond.methodLink RX6 234 yX0_clear ∈ wsL_law := iw_32 _ (List.mem_of_getElem? (i := 22) rfl)
theorem kX6_237 : Cond.methodLink RX6 237 yX6_chooseFor ∈ wsL_law := iw_33 _ (List.mem_of_getElem? (i := 2) rfl)
theorem kX6_249 : Cond.methodLink RX6 249 yX3_forLine ∈ wsL_law := iw_33 _ (List.mem_of_getElem? (i := 6) rfl)
theorem kX6_252 : Cond.methodLink RX6 252 yX5_copyBooks ∈ wsL_law := iw_33 _ (List.mem_of_getElem? (i := 10) rfl)
theorem kX6_256 : Cond.methodLink RX6 256 yJ6_bitCount_0f7a4 ∈ wsL_law := iw_33 _ (List.mem_of_getElem? (i := 15) rfl)
theorem kX6_261 : Cond.methodLink RX6 261 yX0_addLine ∈ wsL_law := iw_33 _ (List.mem_of_getElem? (i := 16) rfl)
theorem kX6_265 : Cond.methodLink RX6 265 yX6_has ∈ wsL_law := iw_34 _ (List.mem_of_getElem? (i := 13) rfl)
theorem kX6_268 : Cond.methodLink RX6 268 yX6_fewestToKnow ∈ wsL_law := iw_34 _ (List.mem_of_getElem? (i := 14) rfl)
theorem kX6_271 : Cond.methodLink RX6 271 yX5_trueKnowers ∈ wsL_law := iw_34 _ (List.mem_of_getElem? (i := 18) rfl)
theorem kX6_274 : Cond.methodLink RX6 274 yX5_truePages ∈ wsL_law := iw_34 _ (List.mem_of_getElem? (i := 22) rfl)
theorem kX6_277 : Cond.methodLink RX6 277 yX1_readersOfKind ∈ wsL_law := iw_34 _ (List.mem_of_getElem? (i := 23) rfl)
theorem kX6_280 : Cond.methodLink RX6 280 yX6_pagesAllow ∈ wsL_law := iw_35 _ (List.mem_of_getElem? (i := 3) rfl)
theorem kX6_283 : Cond.methodLink RX6 283 yX5_trueReadingsLeft ∈ wsL_law := iw_35 _ (List.mem_of_getElem? (i := 7) rfl)
theorem kX6_286 : Cond.methodLink RX6 286 yJ7_fill_53178 ∈ wsL_law := iw_36 _ (List.mem_of_getElem? (i := 7) rfl)
theorem kX6_294 : Cond.methodLink RX6 294 yX5_canBeCopied ∈ wsL_law := iw_37 _ (List.mem_of_getElem? (i := 5) rfl)
theorem kX6_298 : Cond.methodLink RX6 298 yX5_firstWriter ∈ wsL_law := iw_37 _ (List.mem_of_getElem? (i := 21) rfl)
theorem kX6_304 : Cond.methodLink RX6 304 yJ9_min_7cf53 ∈ wsL_law := iw_38 _ (List.mem_of_getElem? (i := 10) rfl)
theorem kX6_309 : Cond.methodLink RX6 309 yJ9_max_7cf53 ∈ wsL_law := iw_38 _ (List.mem_of_getElem? (i := 11) rfl)
theorem kX6_312 : Cond.methodLink RX6 312 yX5_copyFrom ∈ wsL_law := iw_40 _ (List.mem_of_getElem? (i := 8) rfl)
theorem kX7_59 : Cond.methodLink RX7 59 yX7_in ∈ wsL_law := iw_6 _ (List.mem_of_getElem? (i := 23) rfl)
theorem kX7_76 : Cond.methodLink RX7 76 yX7_here ∈ wsL_law := iw_13 _ (List.mem_of_getElem? (i := 13) rfl)
theorem kX7_94 : Cond.methodLink RX7 94 yX7_want ∈ wsL_law := iw_14 _ (List.mem_of_getElem? (i := 9) rfl)
theorem kX7_99 : Cond.methodLink RX7 99 yX7_isWord ∈ wsL_law := iw_14 _ (List.mem_of_getElem? (i := 5) rfl)
theorem kX7_103 : Cond.methodLink RX7 103 yX7_takeWord ∈ wsL_law := iw_13 _ (List.mem_of_getElem? (i := 22) rfl)
theorem kX7_106 : Cond.methodLink RX7 106 yX7_takeNumber ∈ wsL_law := iw_14 _ (List.mem_of_getElem? (i := 13) rfl)
theorem kX7_110 : Cond.methodLink RX7 110 yX7_kindHere ∈ wsL_law := iw_14 _ (List.mem_of_getElem? (i := 20) rfl)
theorem kX7_120 : Cond.methodLink RX7 120 yX7_takeClause ∈ wsL_law := iw_13 _ (List.mem_of_getElem? (i := 17) rfl)
theorem kX7_137 : Cond.methodLink RX7 137 yX7_isKeptLine ∈ wsL_law := iw_17 _ (List.mem_of_getElem? (i := 20) rfl)
theorem kX7_141 : Cond.methodLink RX7 141 yX7_one ∈ wsL_law := iw_18 _ (List.mem_of_getElem? (i := 0) rfl)
theorem kX7_145 : Cond.methodLink RX7 145 yX7_keptMany ∈ wsL_law := iw_17 _ (List.mem_of_getElem? (i := 16) rfl)
theorem kX7_149 : Cond.methodLink RX7 149 yX7_pagesOf ∈ wsL_law := iw_20 _ (List.mem_of_getElem? (i := 9) rfl)
theorem kX7_152 : Cond.methodLink RX7 152 yX7_knowers ∈ wsL_law := iw_20 _ (List.mem_of_getElem? (i := 13) rfl)
theorem kX7_155 : Cond.methodLink RX7 155 yX7_ones ∈ wsL_law := iw_20 _ (List.mem_of_getElem? (i := 21) rfl)
theorem kX7_158 : Cond.methodLink RX7 158 yX7_votesFor ∈ wsL_law := iw_21 _ (List.mem_of_getElem? (i := 0) rfl)
theorem kX7_161 : Cond.methodLink RX7 161 yX7_isLine ∈ wsL_law := iw_20 _ (List.mem_of_getElem? (i := 5) rfl)
theorem kX7_166 : Cond.methodLink RX7 166 yX7_vote ∈ wsL_law := iw_20 _ (List.mem_of_getElem? (i := 17) rfl)
theorem kX7_169 : Cond.methodLink RX7 169 yX7_isReader ∈ wsL_law := iw_21 _ (List.mem_of_getElem? (i := 22) rfl)
theorem kX7_172 : Cond.methodLink RX7 172 yX7_knownBy ∈ wsL_law := iw_22 _ (List.mem_of_getElem? (i := 2) rfl)
theorem kX7_175 : Cond.methodLink RX7 175 yX7_isPage ∈ wsL_law := iw_23 _ (List.mem_of_getElem? (i := 1) rfl)
theorem kX7_178 : Cond.methodLink RX7 178 yX7_readMany ∈ wsL_law := iw_23 _ (List.mem_of_getElem? (i := 5) rfl)
theorem kX7_183 : Cond.methodLink RX7 183 yX7_know ∈ wsL_law := iw_25 _ (List.mem_of_getElem? (i := 15) rfl)
theorem kX7_188 : Cond.methodLink RX7 188 yX7_readPage ∈ wsL_law := iw_25 _ (List.mem_of_getElem? (i := 11) rfl)
theorem kX7_199 : Cond.methodLink RX7 199 yX7_draw ∈ wsL_law := iw_27 _ (List.mem_of_getElem? (i := 1) rfl)
theorem kX7_202 : Cond.methodLink RX7 202 yX7_make ∈ wsL_law := iw_26 _ (List.mem_of_getElem? (i := 21) rfl)
theorem kX7_208 : Cond.methodLink RX7 208 yX7_darken ∈ wsL_law := iw_28 _ (List.mem_of_getElem? (i := 15) rfl)
theorem kX7_214 : Cond.methodLink RX7 214 yX7_runDays ∈ wsL_law := iw_29 _ (List.mem_of_getElem? (i := 16) rfl)
theorem kX7_220 : Cond.methodLink RX7 220 yX7_has ∈ wsL_law := iw_32 _ (List.mem_of_getElem? (i := 8) rfl)
theorem kX7_223 : Cond.methodLink RX7 223 yX7_palest ∈ wsL_law := iw_32 _ (List.mem_of_getElem? (i := 11) rfl)
theorem kX7_226 : Cond.methodLink RX7 226 yX7_grantAll ∈ wsL_law := iw_32 _ (List.mem_of_getElem? (i := 4) rfl)
theorem kX7_229 : Cond.methodLink RX7 229 yX7_copyRow ∈ wsL_law := iw_34 _ (List.mem_of_getElem? (i := 5) rfl)
theorem kX7_235 : Cond.methodLink RX7 235 yX7_sumBy ∈ wsL_law := iw_34 _ (List.mem_of_getElem? (i := 1) rfl)
theorem kX7_238 : Cond.methodLink RX7 238 yX7_isTrue ∈ wsL_law := iw_35 _ (List.mem_of_getElem? (i := 19) rfl)
theorem kX7_241 : Cond.methodLink RX7 241 yX7_lesser ∈ wsL_law := iw_35 _ (List.mem_of_getElem? (i := 23) rfl)
theorem kX7_245 : Cond.methodLink RX7 245 yX7_fewest ∈ wsL_law := iw_35 _ (List.mem_of_getElem? (i := 15) rfl)
theorem ceJ6_bitCount_0f7a4 : rf_ceS mJ6_bitCount_0f7a4 1 := ⟨⟨by decide +kernel, iw_19 _ (List.mem_of_getElem? (i := 16) rfl), iw_19 _ (List.mem_of_getElem? (i := 15) rfl), ⟨by decide +kernel, by decide +kernel, by decide +kernel⟩, rfl, rfl⟩, iw_19 _ (List.mem_of_getElem? (i := 14) rfl)⟩
theorem ceJ7_fill_53178 : rf_ceS mJ7_fill_53178 2 := ⟨⟨by decide +kernel, iw_4 _ (List.mem_of_getElem? (i := 17) rfl), iw_4 _ (List.mem_of_getElem? (i := 16) rfl), ⟨by decide +kernel, by decide +kernel, by decide +kernel⟩, rfl, rfl⟩, iw_4 _ (List.mem_of_getElem? (i := 15) rfl)⟩
theorem ceX0_addLine : rf_ceV mX0_addLine 4 0 := ⟨⟨by decide +kernel, iw_33 _ (List.mem_of_getElem? (i := 19) rfl), iw_2 _ (List.mem_of_getElem? (i := 11) rfl), ⟨by decide +kernel, by decide +kernel, by decide +kernel⟩, rfl, rfl⟩, iw_33 _ (List.mem_of_getElem? (i := 17) rfl), iw_33 _ (List.mem_of_getElem? (i := 18) rfl), _, rfl, rfl⟩
theorem ceX0_clear : rf_ceV mX0_clear 0 0 := ⟨⟨by decide +kernel, iw_33 _ (List.mem_of_getElem? (i := 1) rfl), iw_2 _ (List.mem_of_getElem? (i := 11) rfl), ⟨by decide +kernel, by decide +kernel, by decide +kernel⟩, rfl, rfl⟩, iw_32 _ (List.mem_of_getElem? (i := 23) rfl), iw_33 _ (List.mem_of_getElem? (i := 0) rfl), _, rfl, rfl⟩
theorem ceX1_addLine : rf_ceV mX1_addLine 2 1 := ⟨⟨by decide +kernel, iw_11 _ (List.mem_of_getElem? (i := 9) rfl), iw_1 _ (List.mem_of_getElem? (i := 19) rfl), ⟨by decide +kernel, by decide +kernel, by decide +kernel⟩, rfl, rfl⟩, iw_11 _ (List.mem_of_getElem? (i := 7) rfl), iw_11 _ (List.mem_of_getElem? (i := 8) rfl), _, rfl, rfl⟩
theorem ceX1_addReader : rf_ceV mX1_addReader 2 1 := ⟨⟨by decide +kernel, iw_11 _ (List.mem_of_getElem? (i := 22) rfl), iw_1 _ (List.mem_of_getElem? (i := 19) rfl), ⟨by decide +kernel, by decide +kernel, by decide +kernel⟩, rfl, rfl⟩, iw_11 _ (List.mem_of_getElem? (i := 20) rfl), iw_11 _ (List.mem_of_getElem? (i := 21) rfl), _, rfl, rfl⟩
theorem ceX1_clear : rf_ceV mX1_clear 0 1 := ⟨⟨by decide +kernel, iw_7 _ (List.mem_of_getElem? (i := 16) rfl), iw_1 _ (List.mem_of_getElem? (i := 19) rfl), ⟨by decide +kernel, by decide +kernel, by decide +kernel⟩, rfl, rfl⟩, iw_7 _ (List.mem_of_getElem? (i := 14) rfl), iw_7 _ (List.mem_of_getElem? (i := 15) rfl), _, rfl, rfl⟩
theorem ceX1_copyFrom : rf_ceV mX1_copyFrom 1 1 := ⟨⟨by decide +kernel, iw_12 _ (List.mem_of_getElem? (i := 11) rfl), iw_1 _ (List.mem_of_getElem? (i := 19) rfl), ⟨by decide +kernel, by decide +kernel, by decide +kernel⟩, rfl, rfl⟩, iw_12 _ (List.mem_of_getElem? (i := 9) rfl), iw_12 _ (List.mem_of_getElem? (i := 10) rfl), _, rfl, rfl⟩
theorem ceX1_hasLine : rf_ceV mX1_hasLine 1 1 := ⟨⟨by decide +kernel, iw_18 _ (List.mem_of_getElem? (i := 13) rfl), iw_1 _ (List.mem_of_getElem? (i := 19) rfl), ⟨by decide +kernel, by decide +kernel, by decide +kernel⟩, rfl, rfl⟩, iw_18 _ (List.mem_of_getElem? (i := 11) rfl), iw_18 _ (List.mem_of_getElem? (i := 12) rfl), _, rfl, rfl⟩
theorem ceX1_hasReader : rf_ceV mX1_hasReader 1 1 := ⟨⟨by decide +kernel, iw_21 _ (List.mem_of_getElem? (i := 13) rfl), iw_1 _ (List.mem_of_getElem? (i := 19) rfl), ⟨by decide +kernel, by decide +kernel, by decide +kernel⟩, rfl, rfl⟩, iw_21 _ (List.mem_of_getElem? (i := 11) rfl), iw_21 _ (List.mem_of_getElem? (i := 12) rfl), _, rfl, rfl⟩
theorem ceX1_readersOfKind : rf_ceV mX1_readersOfKind 1 1 := ⟨⟨by decide +kernel, iw_35 _ (List.mem_of_getElem? (i := 2) rfl), iw_1 _ (List.mem_of_getElem? (i := 19) rfl), ⟨by decide +kernel, by decide +kernel, by decide +kernel⟩, rfl, rfl⟩, iw_35 _ (List.mem_of_getElem? (i := 0) rfl), iw_35 _ (List.mem_of_getElem? (i := 1) rfl), _, rfl, rfl⟩
theorem ceX1_tellError : rf_ceV mX1_tellError 1 1 := ⟨⟨by decide +kernel, iw_12 _ (List.mem_of_getElem? (i := 7) rfl), iw_1 _ (List.mem_of_getElem? (i := 19) rfl), ⟨by decide +kernel, by decide +kernel, by decide +kernel⟩, rfl, rfl⟩, iw_12 _ (List.mem_of_getElem? (i := 5) rfl), iw_12 _ (List.mem_of_getElem? (i := 6) rfl), _, rfl, rfl⟩
theorem ceX2_add : rf_ceV mX2_add 3 2 := ⟨⟨by decide +kernel, iw_25 _ (List.mem_of_getElem? (i := 1) rfl), iw_3 _ (List.mem_of_getElem? (i := 18) rfl), ⟨by decide +kernel, by decide +kernel, by decide +kernel⟩, rfl, rfl⟩, iw_24 _ (List.mem_of_getElem? (i := 23) rfl), iw_25 _ (List.mem_of_getElem? (i := 0) rfl), _, rfl, rfl⟩
theorem ceX2_copyFrom : rf_ceV mX2_copyFrom 1 2 := ⟨⟨by decide +kernel, iw_40 _ (List.mem_of_getElem? (i := 16) rfl), iw_3 _ (List.mem_of_getElem? (i := 18) rfl), ⟨by decide +kernel, by decide +kernel, by decide +kernel⟩, rfl, rfl⟩, iw_40 _ (List.mem_of_getElem? (i := 14) rfl), iw_40 _ (List.mem_of_getElem? (i := 15) rfl), _, rfl, rfl⟩
theorem ceX2_timesRead : rf_ceV mX2_timesRead 1 2 := ⟨⟨by decide +kernel, iw_22 _ (List.mem_of_getElem? (i := 20) rfl), iw_3 _ (List.mem_of_getElem? (i := 18) rfl), ⟨by decide +kernel, by decide +kernel, by decide +kernel⟩, rfl, rfl⟩, iw_22 _ (List.mem_of_getElem? (i := 18) rfl), iw_22 _ (List.mem_of_getElem? (i := 19) rfl), _, rfl, rfl⟩
theorem ceX3_add : rf_ceV mX3_add 3 3 := ⟨⟨by decide +kernel, iw_30 _ (List.mem_of_getElem? (i := 15) rfl), iw_2 _ (List.mem_of_getElem? (i := 7) rfl), ⟨by decide +kernel, by decide +kernel, by decide +kernel⟩, rfl, rfl⟩, iw_30 _ (List.mem_of_getElem? (i := 13) rfl), iw_30 _ (List.mem_of_getElem? (i := 14) rfl), _, rfl, rfl⟩
theorem ceX3_forLine : rf_ceV mX3_forLine 1 3 := ⟨⟨by decide +kernel, iw_33 _ (List.mem_of_getElem? (i := 9) rfl), iw_2 _ (List.mem_of_getElem? (i := 7) rfl), ⟨by decide +kernel, by decide +kernel, by decide +kernel⟩, rfl, rfl⟩, iw_33 _ (List.mem_of_getElem? (i := 7) rfl), iw_33 _ (List.mem_of_getElem? (i := 8) rfl), _, rfl, rfl⟩
theorem ceX3_fulfil : rf_ceV mX3_fulfil 2 3 := ⟨⟨by decide +kernel, iw_31 _ (List.mem_of_getElem? (i := 16) rfl), iw_2 _ (List.mem_of_getElem? (i := 7) rfl), ⟨by decide +kernel, by decide +kernel, by decide +kernel⟩, rfl, rfl⟩, iw_31 _ (List.mem_of_getElem? (i := 14) rfl), iw_31 _ (List.mem_of_getElem? (i := 15) rfl), _, rfl, rfl⟩
theorem ceX4_append : rf_ceV mX4_append 1 4 := ⟨⟨by decide +kernel, iw_6 _ (List.mem_of_getElem? (i := 13) rfl), iw_1 _ (List.mem_of_getElem? (i := 15) rfl), ⟨by decide +kernel, by decide +kernel, by decide +kernel⟩, rfl, rfl⟩, iw_6 _ (List.mem_of_getElem? (i := 11) rfl), iw_6 _ (List.mem_of_getElem? (i := 12) rfl), _, rfl, rfl⟩
theorem ceX4_fail : rf_ceV mX4_fail 2 4 := ⟨⟨by decide +kernel, iw_10 _ (List.mem_of_getElem? (i := 18) rfl), iw_1 _ (List.mem_of_getElem? (i := 15) rfl), ⟨by decide +kernel, by decide +kernel, by decide +kernel⟩, rfl, rfl⟩, iw_10 _ (List.mem_of_getElem? (i := 16) rfl), iw_10 _ (List.mem_of_getElem? (i := 17) rfl), _, rfl, rfl⟩
theorem ceX4_isFigure : rf_ceS mX4_isFigure 1 := ⟨⟨by decide +kernel, iw_11 _ (List.mem_of_getElem? (i := 1) rfl), iw_1 _ (List.mem_of_getElem? (i := 15) rfl), ⟨by decide +kernel, by decide +kernel, by decide +kernel⟩, rfl, rfl⟩, iw_11 _ (List.mem_of_getElem? (i := 0) rfl)⟩
theorem ceX4_parseClause : rf_ceV mX4_parseClause 1 4 := ⟨⟨by decide +kernel, iw_8 _ (List.mem_of_getElem? (i := 0) rfl), iw_1 _ (List.mem_of_getElem? (i := 15) rfl), ⟨by decide +kernel, by decide +kernel, by decide +kernel⟩, rfl, rfl⟩, iw_7 _ (List.mem_of_getElem? (i := 22) rfl), iw_7 _ (List.mem_of_getElem? (i := 23) rfl), _, rfl, rfl⟩
theorem ceX4_parseError : rf_ceV mX4_parseError 2 4 := ⟨⟨by decide +kernel, iw_12 _ (List.mem_of_getElem? (i := 2) rfl), iw_1 _ (List.mem_of_getElem? (i := 15) rfl), ⟨by decide +kernel, by decide +kernel, by decide +kernel⟩, rfl, rfl⟩, iw_12 _ (List.mem_of_getElem? (i := 0) rfl), iw_12 _ (List.mem_of_getElem? (i := 1) rfl), _, rfl, rfl⟩
theorem ceX4_parseInto : rf_ceV mX4_parseInto 1 4 := ⟨⟨by decide +kernel, iw_7 _ (List.mem_of_getElem? (i := 12) rfl), iw_1 _ (List.mem_of_getElem? (i := 15) rfl), ⟨by decide +kernel, by decide +kernel, by decide +kernel⟩, rfl, rfl⟩, iw_7 _ (List.mem_of_getElem? (i := 10) rfl), iw_7 _ (List.mem_of_getElem? (i := 11) rfl), _, rfl, rfl⟩
theorem ceX4_parseLine : rf_ceV mX4_parseLine 2 4 := ⟨⟨by decide +kernel, iw_10 _ (List.mem_of_getElem? (i := 13) rfl), iw_1 _ (List.mem_of_getElem? (i := 15) rfl), ⟨by decide +kernel, by decide +kernel, by decide +kernel⟩, rfl, rfl⟩, iw_10 _ (List.mem_of_getElem? (i := 11) rfl), iw_10 _ (List.mem_of_getElem? (i := 12) rfl), _, rfl, rfl⟩
theorem ceX4_parseReader : rf_ceV mX4_parseReader 2 4 := ⟨⟨by decide +kernel, iw_11 _ (List.mem_of_getElem? (i := 13) rfl), iw_1 _ (List.mem_of_getElem? (i := 15) rfl), ⟨by decide +kernel, by decide +kernel, by decide +kernel⟩, rfl, rfl⟩, iw_11 _ (List.mem_of_getElem? (i := 11) rfl), iw_11 _ (List.mem_of_getElem? (i := 12) rfl), _, rfl, rfl⟩
theorem ceX4_skipBlanks : rf_ceV mX4_skipBlanks 0 4 := ⟨⟨by decide +kernel, iw_7 _ (List.mem_of_getElem? (i := 20) rfl), iw_1 _ (List.mem_of_getElem? (i := 15) rfl), ⟨by decide +kernel, by decide +kernel, by decide +kernel⟩, rfl, rfl⟩, iw_7 _ (List.mem_of_getElem? (i := 18) rfl), iw_7 _ (List.mem_of_getElem? (i := 19) rfl), _, rfl, rfl⟩
theorem ceX4_spells : rf_ceV mX4_spells 3 4 := ⟨⟨by decide +kernel, iw_8 _ (List.mem_of_getElem? (i := 8) rfl), iw_1 _ (List.mem_of_getElem? (i := 15) rfl), ⟨by decide +kernel, by decide +kernel, by decide +kernel⟩, rfl, rfl⟩, iw_8 _ (List.mem_of_getElem? (i := 6) rfl), iw_8 _ (List.mem_of_getElem? (i := 7) rfl), _, rfl, rfl⟩
theorem ceX4_takeEnd : rf_ceV mX4_takeEnd 0 4 := ⟨⟨by decide +kernel, iw_11 _ (List.mem_of_getElem? (i := 5) rfl), iw_1 _ (List.mem_of_getElem? (i := 15) rfl), ⟨by decide +kernel, by decide +kernel, by decide +kernel⟩, rfl, rfl⟩, iw_11 _ (List.mem_of_getElem? (i := 3) rfl), iw_11 _ (List.mem_of_getElem? (i := 4) rfl), _, rfl, rfl⟩
theorem ceX4_takeKind : rf_ceV mX4_takeKind 0 4 := ⟨⟨by decide +kernel, iw_11 _ (List.mem_of_getElem? (i := 18) rfl), iw_1 _ (List.mem_of_getElem? (i := 15) rfl), ⟨by decide +kernel, by decide +kernel, by decide +kernel⟩, rfl, rfl⟩, iw_11 _ (List.mem_of_getElem? (i := 16) rfl), iw_11 _ (List.mem_of_getElem? (i := 17) rfl), _, rfl, rfl⟩
theorem ceX4_takeNumber : rf_ceV mX4_takeNumber 2 4 := ⟨⟨by decide +kernel, iw_10 _ (List.mem_of_getElem? (i := 22) rfl), iw_1 _ (List.mem_of_getElem? (i := 15) rfl), ⟨by decide +kernel, by decide +kernel, by decide +kernel⟩, rfl, rfl⟩, iw_10 _ (List.mem_of_getElem? (i := 20) rfl), iw_10 _ (List.mem_of_getElem? (i := 21) rfl), _, rfl, rfl⟩
theorem ceX4_wordEnd : rf_ceV mX4_wordEnd 0 4 := ⟨⟨by decide +kernel, iw_8 _ (List.mem_of_getElem? (i := 4) rfl), iw_1 _ (List.mem_of_getElem? (i := 15) rfl), ⟨by decide +kernel, by decide +kernel, by decide +kernel⟩, rfl, rfl⟩, iw_8 _ (List.mem_of_getElem? (i := 2) rfl), iw_8 _ (List.mem_of_getElem? (i := 3) rfl), _, rfl, rfl⟩
theorem ceX5_addPage : rf_ceV mX5_addPage 3 5 := ⟨⟨by decide +kernel, iw_26 _ (List.mem_of_getElem? (i := 6) rfl), iw_2 _ (List.mem_of_getElem? (i := 0) rfl), ⟨by decide +kernel, by decide +kernel, by decide +kernel⟩, rfl, rfl⟩, iw_26 _ (List.mem_of_getElem? (i := 4) rfl), iw_26 _ (List.mem_of_getElem? (i := 5) rfl), _, rfl, rfl⟩
theorem ceX5_canBeCopied : rf_ceV mX5_canBeCopied 3 5 := ⟨⟨by decide +kernel, iw_37 _ (List.mem_of_getElem? (i := 8) rfl), iw_2 _ (List.mem_of_getElem? (i := 0) rfl), ⟨by decide +kernel, by decide +kernel, by decide +kernel⟩, rfl, rfl⟩, iw_37 _ (List.mem_of_getElem? (i := 6) rfl), iw_37 _ (List.mem_of_getElem? (i := 7) rfl), _, rfl, rfl⟩
theorem ceX5_copyBooks : rf_ceV mX5_copyBooks 1 5 := ⟨⟨by decide +kernel, iw_33 _ (List.mem_of_getElem? (i := 13) rfl), iw_2 _ (List.mem_of_getElem? (i := 0) rfl), ⟨by decide +kernel, by decide +kernel, by decide +kernel⟩, rfl, rfl⟩, iw_33 _ (List.mem_of_getElem? (i := 11) rfl), iw_33 _ (List.mem_of_getElem? (i := 12) rfl), _, rfl, rfl⟩
theorem ceX5_copyFrom : rf_ceV mX5_copyFrom 1 5 := ⟨⟨by decide +kernel, iw_40 _ (List.mem_of_getElem? (i := 11) rfl), iw_2 _ (List.mem_of_getElem? (i := 0) rfl), ⟨by decide +kernel, by decide +kernel, by decide +kernel⟩, rfl, rfl⟩, iw_40 _ (List.mem_of_getElem? (i := 9) rfl), iw_40 _ (List.mem_of_getElem? (i := 10) rfl), _, rfl, rfl⟩
theorem ceX5_countGone : rf_ceV mX5_countGone 0 5 := ⟨⟨by decide +kernel, iw_29 _ (List.mem_of_getElem? (i := 10) rfl), iw_2 _ (List.mem_of_getElem? (i := 0) rfl), ⟨by decide +kernel, by decide +kernel, by decide +kernel⟩, rfl, rfl⟩, iw_29 _ (List.mem_of_getElem? (i := 8) rfl), iw_29 _ (List.mem_of_getElem? (i := 9) rfl), _, rfl, rfl⟩
theorem ceX5_countKept : rf_ceV mX5_countKept 1 5 := ⟨⟨by decide +kernel, iw_15 _ (List.mem_of_getElem? (i := 22) rfl), iw_2 _ (List.mem_of_getElem? (i := 0) rfl), ⟨by decide +kernel, by decide +kernel, by decide +kernel⟩, rfl, rfl⟩, iw_15 _ (List.mem_of_getElem? (i := 20) rfl), iw_15 _ (List.mem_of_getElem? (i := 21) rfl), _, rfl, rfl⟩
theorem ceX5_darkestPage : rf_ceV mX5_darkestPage 1 5 := ⟨⟨by decide +kernel, iw_31 _ (List.mem_of_getElem? (i := 22) rfl), iw_2 _ (List.mem_of_getElem? (i := 0) rfl), ⟨by decide +kernel, by decide +kernel, by decide +kernel⟩, rfl, rfl⟩, iw_31 _ (List.mem_of_getElem? (i := 20) rfl), iw_31 _ (List.mem_of_getElem? (i := 21) rfl), _, rfl, rfl⟩
theorem ceX5_dayLearnt : rf_ceV mX5_dayLearnt 2 5 := ⟨⟨by decide +kernel, iw_17 _ (List.mem_of_getElem? (i := 8) rfl), iw_2 _ (List.mem_of_getElem? (i := 0) rfl), ⟨by decide +kernel, by decide +kernel, by decide +kernel⟩, rfl, rfl⟩, iw_17 _ (List.mem_of_getElem? (i := 6) rfl), iw_17 _ (List.mem_of_getElem? (i := 7) rfl), _, rfl, rfl⟩
theorem ceX5_daysAhead : rf_ceV mX5_daysAhead 1 5 := ⟨⟨by decide +kernel, iw_16 _ (List.mem_of_getElem? (i := 19) rfl), iw_2 _ (List.mem_of_getElem? (i := 0) rfl), ⟨by decide +kernel, by decide +kernel, by decide +kernel⟩, rfl, rfl⟩, iw_16 _ (List.mem_of_getElem? (i := 17) rfl), iw_16 _ (List.mem_of_getElem? (i := 18) rfl), _, rfl, rfl⟩
theorem ceX5_draw : rf_ceV mX5_draw 1 5 := ⟨⟨by decide +kernel, iw_26 _ (List.mem_of_getElem? (i := 13) rfl), iw_2 _ (List.mem_of_getElem? (i := 0) rfl), ⟨by decide +kernel, by decide +kernel, by decide +kernel⟩, rfl, rfl⟩, iw_26 _ (List.mem_of_getElem? (i := 11) rfl), iw_26 _ (List.mem_of_getElem? (i := 12) rfl), _, rfl, rfl⟩
theorem ceX5_firstPage : rf_ceV mX5_firstPage 1 5 := ⟨⟨by decide +kernel, iw_30 _ (List.mem_of_getElem? (i := 3) rfl), iw_2 _ (List.mem_of_getElem? (i := 0) rfl), ⟨by decide +kernel, by decide +kernel, by decide +kernel⟩, rfl, rfl⟩, iw_30 _ (List.mem_of_getElem? (i := 1) rfl), iw_30 _ (List.mem_of_getElem? (i := 2) rfl), _, rfl, rfl⟩
theorem ceX5_firstWriter : rf_ceV mX5_firstWriter 2 5 := ⟨⟨by decide +kernel, iw_38 _ (List.mem_of_getElem? (i := 0) rfl), iw_2 _ (List.mem_of_getElem? (i := 0) rfl), ⟨by decide +kernel, by decide +kernel, by decide +kernel⟩, rfl, rfl⟩, iw_37 _ (List.mem_of_getElem? (i := 22) rfl), iw_37 _ (List.mem_of_getElem? (i := 23) rfl), _, rfl, rfl⟩
theorem ceX5_hasPage : rf_ceV mX5_hasPage 1 5 := ⟨⟨by decide +kernel, iw_22 _ (List.mem_of_getElem? (i := 16) rfl), iw_2 _ (List.mem_of_getElem? (i := 0) rfl), ⟨by decide +kernel, by decide +kernel, by decide +kernel⟩, rfl, rfl⟩, iw_22 _ (List.mem_of_getElem? (i := 14) rfl), iw_22 _ (List.mem_of_getElem? (i := 15) rfl), _, rfl, rfl⟩
theorem ceX5_heart : rf_ceS mX5_heart 2 := ⟨⟨by decide +kernel, iw_17 _ (List.mem_of_getElem? (i := 11) rfl), iw_2 _ (List.mem_of_getElem? (i := 0) rfl), ⟨by decide +kernel, by decide +kernel, by decide +kernel⟩, rfl, rfl⟩, iw_17 _ (List.mem_of_getElem? (i := 10) rfl)⟩
theorem ceX5_isFull : rf_ceV mX5_isFull 0 5 := ⟨⟨by decide +kernel, iw_26 _ (List.mem_of_getElem? (i := 2) rfl), iw_2 _ (List.mem_of_getElem? (i := 0) rfl), ⟨by decide +kernel, by decide +kernel, by decide +kernel⟩, rfl, rfl⟩, iw_26 _ (List.mem_of_getElem? (i := 0) rfl), iw_26 _ (List.mem_of_getElem? (i := 1) rfl), _, rfl, rfl⟩
theorem ceX5_isGone : rf_ceV mX5_isGone 1 5 := ⟨⟨by decide +kernel, iw_24 _ (List.mem_of_getElem? (i := 16) rfl), iw_2 _ (List.mem_of_getElem? (i := 0) rfl), ⟨by decide +kernel, by decide +kernel, by decide +kernel⟩, rfl, rfl⟩, iw_24 _ (List.mem_of_getElem? (i := 14) rfl), iw_24 _ (List.mem_of_getElem? (i := 15) rfl), _, rfl, rfl⟩
theorem ceX5_isKept : rf_ceV mX5_isKept 2 5 := ⟨⟨by decide +kernel, iw_16 _ (List.mem_of_getElem? (i := 2) rfl), iw_2 _ (List.mem_of_getElem? (i := 0) rfl), ⟨by decide +kernel, by decide +kernel, by decide +kernel⟩, rfl, rfl⟩, iw_16 _ (List.mem_of_getElem? (i := 0) rfl), iw_16 _ (List.mem_of_getElem? (i := 1) rfl), _, rfl, rfl⟩
theorem ceX5_isLeft : rf_ceV mX5_isLeft 2 5 := ⟨⟨by decide +kernel, iw_16 _ (List.mem_of_getElem? (i := 15) rfl), iw_2 _ (List.mem_of_getElem? (i := 0) rfl), ⟨by decide +kernel, by decide +kernel, by decide +kernel⟩, rfl, rfl⟩, iw_16 _ (List.mem_of_getElem? (i := 13) rfl), iw_16 _ (List.mem_of_getElem? (i := 14) rfl), _, rfl, rfl⟩
theorem ceX5_knowers : rf_ceV mX5_knowers 1 5 := ⟨⟨by decide +kernel, iw_18 _ (List.mem_of_getElem? (i := 22) rfl), iw_2 _ (List.mem_of_getElem? (i := 0) rfl), ⟨by decide +kernel, by decide +kernel, by decide +kernel⟩, rfl, rfl⟩, iw_18 _ (List.mem_of_getElem? (i := 20) rfl), iw_18 _ (List.mem_of_getElem? (i := 21) rfl), _, rfl, rfl⟩
theorem ceX5_knowersOf : rf_ceV mX5_knowersOf 2 5 := ⟨⟨by decide +kernel, iw_19 _ (List.mem_of_getElem? (i := 23) rfl), iw_2 _ (List.mem_of_getElem? (i := 0) rfl), ⟨by decide +kernel, by decide +kernel, by decide +kernel⟩, rfl, rfl⟩, iw_19 _ (List.mem_of_getElem? (i := 21) rfl), iw_19 _ (List.mem_of_getElem? (i := 22) rfl), _, rfl, rfl⟩
theorem ceX5_knowsAny : rf_ceV mX5_knowsAny 2 5 := ⟨⟨by decide +kernel, iw_19 _ (List.mem_of_getElem? (i := 2) rfl), iw_2 _ (List.mem_of_getElem? (i := 0) rfl), ⟨by decide +kernel, by decide +kernel, by decide +kernel⟩, rfl, rfl⟩, iw_19 _ (List.mem_of_getElem? (i := 0) rfl), iw_19 _ (List.mem_of_getElem? (i := 1) rfl), _, rfl, rfl⟩
theorem ceX5_learn : rf_ceV mX5_learn 3 5 := ⟨⟨by decide +kernel, iw_25 _ (List.mem_of_getElem? (i := 5) rfl), iw_2 _ (List.mem_of_getElem? (i := 0) rfl), ⟨by decide +kernel, by decide +kernel, by decide +kernel⟩, rfl, rfl⟩, iw_25 _ (List.mem_of_getElem? (i := 3) rfl), iw_25 _ (List.mem_of_getElem? (i := 4) rfl), _, rfl, rfl⟩
theorem ceX5_linesKnown : rf_ceV mX5_linesKnown 1 5 := ⟨⟨by decide +kernel, iw_21 _ (List.mem_of_getElem? (i := 17) rfl), iw_2 _ (List.mem_of_getElem? (i := 0) rfl), ⟨by decide +kernel, by decide +kernel, by decide +kernel⟩, rfl, rfl⟩, iw_21 _ (List.mem_of_getElem? (i := 15) rfl), iw_21 _ (List.mem_of_getElem? (i := 16) rfl), _, rfl, rfl⟩
theorem ceX5_liveByDraws : rf_ceV mX5_liveByDraws 1 5 := ⟨⟨by decide +kernel, iw_29 _ (List.mem_of_getElem? (i := 2) rfl), iw_2 _ (List.mem_of_getElem? (i := 0) rfl), ⟨by decide +kernel, by decide +kernel, by decide +kernel⟩, rfl, rfl⟩, iw_29 _ (List.mem_of_getElem? (i := 0) rfl), iw_29 _ (List.mem_of_getElem? (i := 1) rfl), _, rfl, rfl⟩
theorem ceX5_open : rf_ceV mX5_open 0 5 := ⟨⟨by decide +kernel, iw_12 _ (List.mem_of_getElem? (i := 19) rfl), iw_2 _ (List.mem_of_getElem? (i := 0) rfl), ⟨by decide +kernel, by decide +kernel, by decide +kernel⟩, rfl, rfl⟩, iw_12 _ (List.mem_of_getElem? (i := 17) rfl), iw_12 _ (List.mem_of_getElem? (i := 18) rfl), _, rfl, rfl⟩
theorem ceX5_pagesLeft : rf_ceV mX5_pagesLeft 1 5 := ⟨⟨by decide +kernel, iw_18 _ (List.mem_of_getElem? (i := 18) rfl), iw_2 _ (List.mem_of_getElem? (i := 0) rfl), ⟨by decide +kernel, by decide +kernel, by decide +kernel⟩, rfl, rfl⟩, iw_18 _ (List.mem_of_getElem? (i := 16) rfl), iw_18 _ (List.mem_of_getElem? (i := 17) rfl), _, rfl, rfl⟩
theorem ceX5_pagesLeftWith : rf_ceV mX5_pagesLeftWith 2 5 := ⟨⟨by decide +kernel, iw_16 _ (List.mem_of_getElem? (i := 11) rfl), iw_2 _ (List.mem_of_getElem? (i := 0) rfl), ⟨by decide +kernel, by decide +kernel, by decide +kernel⟩, rfl, rfl⟩, iw_16 _ (List.mem_of_getElem? (i := 9) rfl), iw_16 _ (List.mem_of_getElem? (i := 10) rfl), _, rfl, rfl⟩
theorem ceX5_passDusks : rf_ceV mX5_passDusks 1 5 := ⟨⟨by decide +kernel, iw_28 _ (List.mem_of_getElem? (i := 9) rfl), iw_2 _ (List.mem_of_getElem? (i := 0) rfl), ⟨by decide +kernel, by decide +kernel, by decide +kernel⟩, rfl, rfl⟩, iw_28 _ (List.mem_of_getElem? (i := 7) rfl), iw_28 _ (List.mem_of_getElem? (i := 8) rfl), _, rfl, rfl⟩
theorem ceX5_readPage : rf_ceV mX5_readPage 2 5 := ⟨⟨by decide +kernel, iw_24 _ (List.mem_of_getElem? (i := 20) rfl), iw_2 _ (List.mem_of_getElem? (i := 0) rfl), ⟨by decide +kernel, by decide +kernel, by decide +kernel⟩, rfl, rfl⟩, iw_24 _ (List.mem_of_getElem? (i := 18) rfl), iw_24 _ (List.mem_of_getElem? (i := 19) rfl), _, rfl, rfl⟩
theorem ceX5_trueKnowers : rf_ceV mX5_trueKnowers 1 5 := ⟨⟨by decide +kernel, iw_34 _ (List.mem_of_getElem? (i := 21) rfl), iw_2 _ (List.mem_of_getElem? (i := 0) rfl), ⟨by decide +kernel, by decide +kernel, by decide +kernel⟩, rfl, rfl⟩, iw_34 _ (List.mem_of_getElem? (i := 19) rfl), iw_34 _ (List.mem_of_getElem? (i := 20) rfl), _, rfl, rfl⟩
theorem ceX5_truePages : rf_ceV mX5_truePages 1 5 := ⟨⟨by decide +kernel, iw_16 _ (List.mem_of_getElem? (i := 7) rfl), iw_2 _ (List.mem_of_getElem? (i := 0) rfl), ⟨by decide +kernel, by decide +kernel, by decide +kernel⟩, rfl, rfl⟩, iw_16 _ (List.mem_of_getElem? (i := 5) rfl), iw_16 _ (List.mem_of_getElem? (i := 6) rfl), _, rfl, rfl⟩
theorem ceX5_trueReadingsLeft : rf_ceV mX5_trueReadingsLeft 1 5 := ⟨⟨by decide +kernel, iw_35 _ (List.mem_of_getElem? (i := 10) rfl), iw_2 _ (List.mem_of_getElem? (i := 0) rfl), ⟨by decide +kernel, by decide +kernel, by decide +kernel⟩, rfl, rfl⟩, iw_35 _ (List.mem_of_getElem? (i := 8) rfl), iw_35 _ (List.mem_of_getElem? (i := 9) rfl), _, rfl, rfl⟩
theorem ceX5_variantAt : rf_ceV mX5_variantAt 3 5 := ⟨⟨by decide +kernel, iw_17 _ (List.mem_of_getElem? (i := 3) rfl), iw_2 _ (List.mem_of_getElem? (i := 0) rfl), ⟨by decide +kernel, by decide +kernel, by decide +kernel⟩, rfl, rfl⟩, iw_17 _ (List.mem_of_getElem? (i := 1) rfl), iw_17 _ (List.mem_of_getElem? (i := 2) rfl), _, rfl, rfl⟩
theorem ceX5_variantKnown : rf_ceV mX5_variantKnown 2 5 := ⟨⟨by decide +kernel, iw_19 _ (List.mem_of_getElem? (i := 6) rfl), iw_2 _ (List.mem_of_getElem? (i := 0) rfl), ⟨by decide +kernel, by decide +kernel, by decide +kernel⟩, rfl, rfl⟩, iw_19 _ (List.mem_of_getElem? (i := 4) rfl), iw_19 _ (List.mem_of_getElem? (i := 5) rfl), _, rfl, rfl⟩
theorem ceX5_voteOn : rf_ceV mX5_voteOn 1 5 := ⟨⟨by decide +kernel, iw_19 _ (List.mem_of_getElem? (i := 10) rfl), iw_2 _ (List.mem_of_getElem? (i := 0) rfl), ⟨by decide +kernel, by decide +kernel, by decide +kernel⟩, rfl, rfl⟩, iw_19 _ (List.mem_of_getElem? (i := 8) rfl), iw_19 _ (List.mem_of_getElem? (i := 9) rfl), _, rfl, rfl⟩
theorem ceX6_best : rf_ceV mX6_best 2 6 := ⟨⟨by decide +kernel, iw_32 _ (List.mem_of_getElem? (i := 18) rfl), iw_1 _ (List.mem_of_getElem? (i := 2) rfl), ⟨by decide +kernel, by decide +kernel, by decide +kernel⟩, rfl, rfl⟩, iw_32 _ (List.mem_of_getElem? (i := 16) rfl), iw_32 _ (List.mem_of_getElem? (i := 17) rfl), _, rfl, rfl⟩
theorem ceX6_chooseFor : rf_ceV mX6_chooseFor 2 6 := ⟨⟨by decide +kernel, iw_33 _ (List.mem_of_getElem? (i := 5) rfl), iw_1 _ (List.mem_of_getElem? (i := 2) rfl), ⟨by decide +kernel, by decide +kernel, by decide +kernel⟩, rfl, rfl⟩, iw_33 _ (List.mem_of_getElem? (i := 3) rfl), iw_33 _ (List.mem_of_getElem? (i := 4) rfl), _, rfl, rfl⟩
theorem ceX6_claim : rf_ceV mX6_claim 3 6 := ⟨⟨by decide +kernel, iw_37 _ (List.mem_of_getElem? (i := 4) rfl), iw_1 _ (List.mem_of_getElem? (i := 2) rfl), ⟨by decide +kernel, by decide +kernel, by decide +kernel⟩, rfl, rfl⟩, iw_37 _ (List.mem_of_getElem? (i := 2) rfl), iw_37 _ (List.mem_of_getElem? (i := 3) rfl), _, rfl, rfl⟩
theorem ceX6_copy : rf_ceV mX6_copy 2 6 := ⟨⟨by decide +kernel, iw_25 _ (List.mem_of_getElem? (i := 22) rfl), iw_1 _ (List.mem_of_getElem? (i := 2) rfl), ⟨by decide +kernel, by decide +kernel, by decide +kernel⟩, rfl, rfl⟩, iw_25 _ (List.mem_of_getElem? (i := 20) rfl), iw_25 _ (List.mem_of_getElem? (i := 21) rfl), _, rfl, rfl⟩
theorem ceX6_dusk : rf_ceV mX6_dusk 1 6 := ⟨⟨by decide +kernel, iw_28 _ (List.mem_of_getElem? (i := 5) rfl), iw_1 _ (List.mem_of_getElem? (i := 2) rfl), ⟨by decide +kernel, by decide +kernel, by decide +kernel⟩, rfl, rfl⟩, iw_28 _ (List.mem_of_getElem? (i := 3) rfl), iw_28 _ (List.mem_of_getElem? (i := 4) rfl), _, rfl, rfl⟩
theorem ceX6_fault : rf_ceV mX6_fault 0 6 := ⟨⟨by decide +kernel, iw_15 _ (List.mem_of_getElem? (i := 3) rfl), iw_1 _ (List.mem_of_getElem? (i := 2) rfl), ⟨by decide +kernel, by decide +kernel, by decide +kernel⟩, rfl, rfl⟩, iw_15 _ (List.mem_of_getElem? (i := 1) rfl), iw_15 _ (List.mem_of_getElem? (i := 2) rfl), _, rfl, rfl⟩
theorem ceX6_feed : rf_ceV mX6_feed 2 6 := ⟨⟨by decide +kernel, iw_6 _ (List.mem_of_getElem? (i := 6) rfl), iw_1 _ (List.mem_of_getElem? (i := 2) rfl), ⟨by decide +kernel, by decide +kernel, by decide +kernel⟩, rfl, rfl⟩, iw_6 _ (List.mem_of_getElem? (i := 4) rfl), iw_6 _ (List.mem_of_getElem? (i := 5) rfl), _, rfl, rfl⟩
theorem ceX6_fewestToKnow : rf_ceV mX6_fewestToKnow 2 6 := ⟨⟨by decide +kernel, iw_34 _ (List.mem_of_getElem? (i := 17) rfl), iw_1 _ (List.mem_of_getElem? (i := 2) rfl), ⟨by decide +kernel, by decide +kernel, by decide +kernel⟩, rfl, rfl⟩, iw_34 _ (List.mem_of_getElem? (i := 15) rfl), iw_34 _ (List.mem_of_getElem? (i := 16) rfl), _, rfl, rfl⟩
theorem ceX6_forget : rf_ceV mX6_forget 0 6 := ⟨⟨by decide +kernel, iw_31 _ (List.mem_of_getElem? (i := 1) rfl), iw_1 _ (List.mem_of_getElem? (i := 2) rfl), ⟨by decide +kernel, by decide +kernel, by decide +kernel⟩, rfl, rfl⟩, iw_30 _ (List.mem_of_getElem? (i := 23) rfl), iw_31 _ (List.mem_of_getElem? (i := 0) rfl), _, rfl, rfl⟩
theorem ceX6_goBack : rf_ceV mX6_goBack 1 6 := ⟨⟨by decide +kernel, iw_41 _ (List.mem_of_getElem? (i := 1) rfl), iw_1 _ (List.mem_of_getElem? (i := 2) rfl), ⟨by decide +kernel, by decide +kernel, by decide +kernel⟩, rfl, rfl⟩, iw_40 _ (List.mem_of_getElem? (i := 23) rfl), iw_41 _ (List.mem_of_getElem? (i := 0) rfl), _, rfl, rfl⟩
theorem ceX6_grant : rf_ceV mX6_grant 1 6 := ⟨⟨by decide +kernel, iw_31 _ (List.mem_of_getElem? (i := 9) rfl), iw_1 _ (List.mem_of_getElem? (i := 2) rfl), ⟨by decide +kernel, by decide +kernel, by decide +kernel⟩, rfl, rfl⟩, iw_31 _ (List.mem_of_getElem? (i := 7) rfl), iw_31 _ (List.mem_of_getElem? (i := 8) rfl), _, rfl, rfl⟩
theorem ceX6_has : rf_ceS mX6_has 2 := ⟨⟨by decide +kernel, iw_31 _ (List.mem_of_getElem? (i := 18) rfl), iw_1 _ (List.mem_of_getElem? (i := 2) rfl), ⟨by decide +kernel, by decide +kernel, by decide +kernel⟩, rfl, rfl⟩, iw_31 _ (List.mem_of_getElem? (i := 17) rfl)⟩
theorem ceX6_isSetOf : rf_ceS mX6_isSetOf 2 := ⟨⟨by decide +kernel, iw_31 _ (List.mem_of_getElem? (i := 12) rfl), iw_1 _ (List.mem_of_getElem? (i := 2) rfl), ⟨by decide +kernel, by decide +kernel, by decide +kernel⟩, rfl, rfl⟩, iw_31 _ (List.mem_of_getElem? (i := 11) rfl)⟩
theorem ceX6_judge : rf_ceV mX6_judge 0 6 := ⟨⟨by decide +kernel, iw_39 _ (List.mem_of_getElem? (i := 15) rfl), iw_1 _ (List.mem_of_getElem? (i := 2) rfl), ⟨by decide +kernel, by decide +kernel, by decide +kernel⟩, rfl, rfl⟩, iw_39 _ (List.mem_of_getElem? (i := 13) rfl), iw_39 _ (List.mem_of_getElem? (i := 14) rfl), _, rfl, rfl⟩
theorem ceX6_keep : rf_ceV mX6_keep 1 6 := ⟨⟨by decide +kernel, iw_40 _ (List.mem_of_getElem? (i := 7) rfl), iw_1 _ (List.mem_of_getElem? (i := 2) rfl), ⟨by decide +kernel, by decide +kernel, by decide +kernel⟩, rfl, rfl⟩, iw_40 _ (List.mem_of_getElem? (i := 5) rfl), iw_40 _ (List.mem_of_getElem? (i := 6) rfl), _, rfl, rfl⟩
theorem ceX6_knows : rf_ceV mX6_knows 3 6 := ⟨⟨by decide +kernel, iw_23 _ (List.mem_of_getElem? (i := 12) rfl), iw_1 _ (List.mem_of_getElem? (i := 2) rfl), ⟨by decide +kernel, by decide +kernel, by decide +kernel⟩, rfl, rfl⟩, iw_23 _ (List.mem_of_getElem? (i := 10) rfl), iw_23 _ (List.mem_of_getElem? (i := 11) rfl), _, rfl, rfl⟩
theorem ceX6_library : rf_ceV mX6_library 0 6 := ⟨⟨by decide +kernel, iw_7 _ (List.mem_of_getElem? (i := 5) rfl), iw_1 _ (List.mem_of_getElem? (i := 2) rfl), ⟨by decide +kernel, by decide +kernel, by decide +kernel⟩, rfl, rfl⟩, iw_7 _ (List.mem_of_getElem? (i := 3) rfl), iw_7 _ (List.mem_of_getElem? (i := 4) rfl), _, rfl, rfl⟩
theorem ceX6_life : rf_ceV mX6_life 3 6 := ⟨⟨by decide +kernel, iw_36 _ (List.mem_of_getElem? (i := 5) rfl), iw_1 _ (List.mem_of_getElem? (i := 2) rfl), ⟨by decide +kernel, by decide +kernel, by decide +kernel⟩, rfl, rfl⟩, iw_36 _ (List.mem_of_getElem? (i := 3) rfl), iw_36 _ (List.mem_of_getElem? (i := 4) rfl), _, rfl, rfl⟩
theorem ceX6_line : rf_ceV mX6_line 2 6 := ⟨⟨by decide +kernel, iw_18 _ (List.mem_of_getElem? (i := 6) rfl), iw_1 _ (List.mem_of_getElem? (i := 2) rfl), ⟨by decide +kernel, by decide +kernel, by decide +kernel⟩, rfl, rfl⟩, iw_18 _ (List.mem_of_getElem? (i := 4) rfl), iw_18 _ (List.mem_of_getElem? (i := 5) rfl), _, rfl, rfl⟩
theorem ceX6_note : rf_ceV mX6_note 1 6 := ⟨⟨by decide +kernel, iw_38 _ (List.mem_of_getElem? (i := 22) rfl), iw_1 _ (List.mem_of_getElem? (i := 2) rfl), ⟨by decide +kernel, by decide +kernel, by decide +kernel⟩, rfl, rfl⟩, iw_38 _ (List.mem_of_getElem? (i := 20) rfl), iw_38 _ (List.mem_of_getElem? (i := 21) rfl), _, rfl, rfl⟩
theorem ceX6_page : rf_ceV mX6_page 2 6 := ⟨⟨by decide +kernel, iw_22 _ (List.mem_of_getElem? (i := 9) rfl), iw_1 _ (List.mem_of_getElem? (i := 2) rfl), ⟨by decide +kernel, by decide +kernel, by decide +kernel⟩, rfl, rfl⟩, iw_22 _ (List.mem_of_getElem? (i := 7) rfl), iw_22 _ (List.mem_of_getElem? (i := 8) rfl), _, rfl, rfl⟩
theorem ceX6_pagesAllow : rf_ceV mX6_pagesAllow 2 6 := ⟨⟨by decide +kernel, iw_35 _ (List.mem_of_getElem? (i := 6) rfl), iw_1 _ (List.mem_of_getElem? (i := 2) rfl), ⟨by decide +kernel, by decide +kernel, by decide +kernel⟩, rfl, rfl⟩, iw_35 _ (List.mem_of_getElem? (i := 4) rfl), iw_35 _ (List.mem_of_getElem? (i := 5) rfl), _, rfl, rfl⟩
theorem ceX6_read : rf_ceV mX6_read 2 6 := ⟨⟨by decide +kernel, iw_24 _ (List.mem_of_getElem? (i := 11) rfl), iw_1 _ (List.mem_of_getElem? (i := 2) rfl), ⟨by decide +kernel, by decide +kernel, by decide +kernel⟩, rfl, rfl⟩, iw_24 _ (List.mem_of_getElem? (i := 9) rfl), iw_24 _ (List.mem_of_getElem? (i := 10) rfl), _, rfl, rfl⟩
theorem ceX6_reader : rf_ceV mX6_reader 2 6 := ⟨⟨by decide +kernel, iw_21 _ (List.mem_of_getElem? (i := 7) rfl), iw_1 _ (List.mem_of_getElem? (i := 2) rfl), ⟨by decide +kernel, by decide +kernel, by decide +kernel⟩, rfl, rfl⟩, iw_21 _ (List.mem_of_getElem? (i := 5) rfl), iw_21 _ (List.mem_of_getElem? (i := 6) rfl), _, rfl, rfl⟩
theorem ceX6_reading : rf_ceV mX6_reading 2 6 := ⟨⟨by decide +kernel, iw_23 _ (List.mem_of_getElem? (i := 23) rfl), iw_1 _ (List.mem_of_getElem? (i := 2) rfl), ⟨by decide +kernel, by decide +kernel, by decide +kernel⟩, rfl, rfl⟩, iw_23 _ (List.mem_of_getElem? (i := 21) rfl), iw_23 _ (List.mem_of_getElem? (i := 22) rfl), _, rfl, rfl⟩
theorem ceX6_request : rf_ceV mX6_request 3 6 := ⟨⟨by decide +kernel, iw_30 _ (List.mem_of_getElem? (i := 11) rfl), iw_1 _ (List.mem_of_getElem? (i := 2) rfl), ⟨by decide +kernel, by decide +kernel, by decide +kernel⟩, rfl, rfl⟩, iw_30 _ (List.mem_of_getElem? (i := 9) rfl), iw_30 _ (List.mem_of_getElem? (i := 10) rfl), _, rfl, rfl⟩
theorem ceX6_right : rf_ceV mX6_right 1 6 := ⟨⟨by decide +kernel, iw_36 _ (List.mem_of_getElem? (i := 17) rfl), iw_1 _ (List.mem_of_getElem? (i := 2) rfl), ⟨by decide +kernel, by decide +kernel, by decide +kernel⟩, rfl, rfl⟩, iw_36 _ (List.mem_of_getElem? (i := 15) rfl), iw_36 _ (List.mem_of_getElem? (i := 16) rfl), _, rfl, rfl⟩
theorem ceX6_run : rf_ceV mX6_run 1 6 := ⟨⟨by decide +kernel, iw_28 _ (List.mem_of_getElem? (i := 22) rfl), iw_1 _ (List.mem_of_getElem? (i := 2) rfl), ⟨by decide +kernel, by decide +kernel, by decide +kernel⟩, rfl, rfl⟩, iw_28 _ (List.mem_of_getElem? (i := 20) rfl), iw_28 _ (List.mem_of_getElem? (i := 21) rfl), _, rfl, rfl⟩
theorem ceX6_seed : rf_ceV mX6_seed 1 6 := ⟨⟨by decide +kernel, iw_39 _ (List.mem_of_getElem? (i := 23) rfl), iw_1 _ (List.mem_of_getElem? (i := 2) rfl), ⟨by decide +kernel, by decide +kernel, by decide +kernel⟩, rfl, rfl⟩, iw_39 _ (List.mem_of_getElem? (i := 21) rfl), iw_39 _ (List.mem_of_getElem? (i := 22) rfl), _, rfl, rfl⟩
theorem ceX6_span : rf_ceV mX6_span 3 6 := ⟨⟨by decide +kernel, iw_38 _ (List.mem_of_getElem? (i := 8) rfl), iw_1 _ (List.mem_of_getElem? (i := 2) rfl), ⟨by decide +kernel, by decide +kernel, by decide +kernel⟩, rfl, rfl⟩, iw_38 _ (List.mem_of_getElem? (i := 6) rfl), iw_38 _ (List.mem_of_getElem? (i := 7) rfl), _, rfl, rfl⟩
theorem ceX6_teach : rf_ceV mX6_teach 3 6 := ⟨⟨by decide +kernel, iw_27 _ (List.mem_of_getElem? (i := 20) rfl), iw_1 _ (List.mem_of_getElem? (i := 2) rfl), ⟨by decide +kernel, by decide +kernel, by decide +kernel⟩, rfl, rfl⟩, iw_27 _ (List.mem_of_getElem? (i := 18) rfl), iw_27 _ (List.mem_of_getElem? (i := 19) rfl), _, rfl, rfl⟩
theorem ceX6_tear : rf_ceV mX6_tear 0 6 := ⟨⟨by decide +kernel, iw_39 _ (List.mem_of_getElem? (i := 7) rfl), iw_1 _ (List.mem_of_getElem? (i := 2) rfl), ⟨by decide +kernel, by decide +kernel, by decide +kernel⟩, rfl, rfl⟩, iw_39 _ (List.mem_of_getElem? (i := 5) rfl), iw_39 _ (List.mem_of_getElem? (i := 6) rfl), _, rfl, rfl⟩
theorem ceX6_toKnow : rf_ceV mX6_toKnow 2 6 := ⟨⟨by decide +kernel, iw_34 _ (List.mem_of_getElem? (i := 12) rfl), iw_1 _ (List.mem_of_getElem? (i := 2) rfl), ⟨by decide +kernel, by decide +kernel, by decide +kernel⟩, rfl, rfl⟩, iw_34 _ (List.mem_of_getElem? (i := 10) rfl), iw_34 _ (List.mem_of_getElem? (i := 11) rfl), _, rfl, rfl⟩
theorem ceX6_told : rf_ceV mX6_told 1 6 := ⟨⟨by decide +kernel, iw_15 _ (List.mem_of_getElem? (i := 12) rfl), iw_1 _ (List.mem_of_getElem? (i := 2) rfl), ⟨by decide +kernel, by decide +kernel, by decide +kernel⟩, rfl, rfl⟩, iw_15 _ (List.mem_of_getElem? (i := 10) rfl), iw_15 _ (List.mem_of_getElem? (i := 11) rfl), _, rfl, rfl⟩
theorem ceX6_whence : rf_ceV mX6_whence 2 6 := ⟨⟨by decide +kernel, iw_37 _ (List.mem_of_getElem? (i := 20) rfl), iw_1 _ (List.mem_of_getElem? (i := 2) rfl), ⟨by decide +kernel, by decide +kernel, by decide +kernel⟩, rfl, rfl⟩, iw_37 _ (List.mem_of_getElem? (i := 18) rfl), iw_37 _ (List.mem_of_getElem? (i := 19) rfl), _, rfl, rfl⟩
theorem ceX6_where : rf_ceV mX6_where 1 6 := ⟨⟨by decide +kernel, iw_29 _ (List.mem_of_getElem? (i := 23) rfl), iw_1 _ (List.mem_of_getElem? (i := 2) rfl), ⟨by decide +kernel, by decide +kernel, by decide +kernel⟩, rfl, rfl⟩, iw_29 _ (List.mem_of_getElem? (i := 21) rfl), iw_29 _ (List.mem_of_getElem? (i := 22) rfl), _, rfl, rfl⟩
theorem ceX6_write : rf_ceV mX6_write 2 6 := ⟨⟨by decide +kernel, iw_27 _ (List.mem_of_getElem? (i := 12) rfl), iw_1 _ (List.mem_of_getElem? (i := 2) rfl), ⟨by decide +kernel, by decide +kernel, by decide +kernel⟩, rfl, rfl⟩, iw_27 _ (List.mem_of_getElem? (i := 10) rfl), iw_27 _ (List.mem_of_getElem? (i := 11) rfl), _, rfl, rfl⟩
theorem ceX7_best : rf_ceV mX7_best 2 7 := ⟨⟨by decide +kernel, iw_33 _ (List.mem_of_getElem? (i := 23) rfl), iw_1 _ (List.mem_of_getElem? (i := 5) rfl), ⟨by decide +kernel, by decide +kernel, by decide +kernel⟩, rfl, rfl⟩, iw_33 _ (List.mem_of_getElem? (i := 21) rfl), iw_33 _ (List.mem_of_getElem? (i := 22) rfl), _, rfl, rfl⟩
theorem ceX7_claim : rf_ceV mX7_claim 3 7 := ⟨⟨by decide +kernel, iw_37 _ (List.mem_of_getElem? (i := 15) rfl), iw_1 _ (List.mem_of_getElem? (i := 5) rfl), ⟨by decide +kernel, by decide +kernel, by decide +kernel⟩, rfl, rfl⟩, iw_37 _ (List.mem_of_getElem? (i := 13) rfl), iw_37 _ (List.mem_of_getElem? (i := 14) rfl), _, rfl, rfl⟩
theorem ceX7_copy : rf_ceV mX7_copy 2 7 := ⟨⟨by decide +kernel, iw_26 _ (List.mem_of_getElem? (i := 20) rfl), iw_1 _ (List.mem_of_getElem? (i := 5) rfl), ⟨by decide +kernel, by decide +kernel, by decide +kernel⟩, rfl, rfl⟩, iw_26 _ (List.mem_of_getElem? (i := 18) rfl), iw_26 _ (List.mem_of_getElem? (i := 19) rfl), _, rfl, rfl⟩
theorem ceX7_copyRow : rf_ceV mX7_copyRow 2 7 := ⟨⟨by decide +kernel, iw_34 _ (List.mem_of_getElem? (i := 8) rfl), iw_1 _ (List.mem_of_getElem? (i := 5) rfl), ⟨by decide +kernel, by decide +kernel, by decide +kernel⟩, rfl, rfl⟩, iw_34 _ (List.mem_of_getElem? (i := 6) rfl), iw_34 _ (List.mem_of_getElem? (i := 7) rfl), _, rfl, rfl⟩
theorem ceX7_darken : rf_ceV mX7_darken 1 7 := ⟨⟨by decide +kernel, iw_28 _ (List.mem_of_getElem? (i := 18) rfl), iw_1 _ (List.mem_of_getElem? (i := 5) rfl), ⟨by decide +kernel, by decide +kernel, by decide +kernel⟩, rfl, rfl⟩, iw_28 _ (List.mem_of_getElem? (i := 16) rfl), iw_28 _ (List.mem_of_getElem? (i := 17) rfl), _, rfl, rfl⟩
theorem ceX7_draw : rf_ceV mX7_draw 2 7 := ⟨⟨by decide +kernel, iw_27 _ (List.mem_of_getElem? (i := 4) rfl), iw_1 _ (List.mem_of_getElem? (i := 5) rfl), ⟨by decide +kernel, by decide +kernel, by decide +kernel⟩, rfl, rfl⟩, iw_27 _ (List.mem_of_getElem? (i := 2) rfl), iw_27 _ (List.mem_of_getElem? (i := 3) rfl), _, rfl, rfl⟩
theorem ceX7_dusk : rf_ceV mX7_dusk 1 7 := ⟨⟨by decide +kernel, iw_28 _ (List.mem_of_getElem? (i := 13) rfl), iw_1 _ (List.mem_of_getElem? (i := 5) rfl), ⟨by decide +kernel, by decide +kernel, by decide +kernel⟩, rfl, rfl⟩, iw_28 _ (List.mem_of_getElem? (i := 11) rfl), iw_28 _ (List.mem_of_getElem? (i := 12) rfl), _, rfl, rfl⟩
theorem ceX7_fault : rf_ceV mX7_fault 0 7 := ⟨⟨by decide +kernel, iw_15 _ (List.mem_of_getElem? (i := 8) rfl), iw_1 _ (List.mem_of_getElem? (i := 5) rfl), ⟨by decide +kernel, by decide +kernel, by decide +kernel⟩, rfl, rfl⟩, iw_15 _ (List.mem_of_getElem? (i := 6) rfl), iw_15 _ (List.mem_of_getElem? (i := 7) rfl), _, rfl, rfl⟩
theorem ceX7_feed : rf_ceV mX7_feed 2 7 := ⟨⟨by decide +kernel, iw_6 _ (List.mem_of_getElem? (i := 17) rfl), iw_1 _ (List.mem_of_getElem? (i := 5) rfl), ⟨by decide +kernel, by decide +kernel, by decide +kernel⟩, rfl, rfl⟩, iw_6 _ (List.mem_of_getElem? (i := 15) rfl), iw_6 _ (List.mem_of_getElem? (i := 16) rfl), _, rfl, rfl⟩
theorem ceX7_fewest : rf_ceV mX7_fewest 2 7 := ⟨⟨by decide +kernel, iw_35 _ (List.mem_of_getElem? (i := 18) rfl), iw_1 _ (List.mem_of_getElem? (i := 5) rfl), ⟨by decide +kernel, by decide +kernel, by decide +kernel⟩, rfl, rfl⟩, iw_35 _ (List.mem_of_getElem? (i := 16) rfl), iw_35 _ (List.mem_of_getElem? (i := 17) rfl), _, rfl, rfl⟩
theorem ceX7_forget : rf_ceV mX7_forget 0 7 := ⟨⟨by decide +kernel, iw_31 _ (List.mem_of_getElem? (i := 5) rfl), iw_1 _ (List.mem_of_getElem? (i := 5) rfl), ⟨by decide +kernel, by decide +kernel, by decide +kernel⟩, rfl, rfl⟩, iw_31 _ (List.mem_of_getElem? (i := 3) rfl), iw_31 _ (List.mem_of_getElem? (i := 4) rfl), _, rfl, rfl⟩
theorem ceX7_goBack : rf_ceV mX7_goBack 1 7 := ⟨⟨by decide +kernel, iw_41 _ (List.mem_of_getElem? (i := 5) rfl), iw_1 _ (List.mem_of_getElem? (i := 5) rfl), ⟨by decide +kernel, by decide +kernel, by decide +kernel⟩, rfl, rfl⟩, iw_41 _ (List.mem_of_getElem? (i := 3) rfl), iw_41 _ (List.mem_of_getElem? (i := 4) rfl), _, rfl, rfl⟩
theorem ceX7_grant : rf_ceV mX7_grant 1 7 := ⟨⟨by decide +kernel, iw_32 _ (List.mem_of_getElem? (i := 3) rfl), iw_1 _ (List.mem_of_getElem? (i := 5) rfl), ⟨by decide +kernel, by decide +kernel, by decide +kernel⟩, rfl, rfl⟩, iw_32 _ (List.mem_of_getElem? (i := 1) rfl), iw_32 _ (List.mem_of_getElem? (i := 2) rfl), _, rfl, rfl⟩
theorem ceX7_grantAll : rf_ceV mX7_grantAll 2 7 := ⟨⟨by decide +kernel, iw_32 _ (List.mem_of_getElem? (i := 7) rfl), iw_1 _ (List.mem_of_getElem? (i := 5) rfl), ⟨by decide +kernel, by decide +kernel, by decide +kernel⟩, rfl, rfl⟩, iw_32 _ (List.mem_of_getElem? (i := 5) rfl), iw_32 _ (List.mem_of_getElem? (i := 6) rfl), _, rfl, rfl⟩
theorem ceX7_has : rf_ceS mX7_has 2 := ⟨⟨by decide +kernel, iw_32 _ (List.mem_of_getElem? (i := 10) rfl), iw_1 _ (List.mem_of_getElem? (i := 5) rfl), ⟨by decide +kernel, by decide +kernel, by decide +kernel⟩, rfl, rfl⟩, iw_32 _ (List.mem_of_getElem? (i := 9) rfl)⟩
theorem ceX7_here : rf_ceV mX7_here 0 7 := ⟨⟨by decide +kernel, iw_13 _ (List.mem_of_getElem? (i := 16) rfl), iw_1 _ (List.mem_of_getElem? (i := 5) rfl), ⟨by decide +kernel, by decide +kernel, by decide +kernel⟩, rfl, rfl⟩, iw_13 _ (List.mem_of_getElem? (i := 14) rfl), iw_13 _ (List.mem_of_getElem? (i := 15) rfl), _, rfl, rfl⟩
theorem ceX7_in : rf_ceS mX7_in 3 := ⟨⟨by decide +kernel, iw_7 _ (List.mem_of_getElem? (i := 1) rfl), iw_1 _ (List.mem_of_getElem? (i := 5) rfl), ⟨by decide +kernel, by decide +kernel, by decide +kernel⟩, rfl, rfl⟩, iw_7 _ (List.mem_of_getElem? (i := 0) rfl)⟩
theorem ceX7_isKeptLine : rf_ceV mX7_isKeptLine 2 7 := ⟨⟨by decide +kernel, iw_17 _ (List.mem_of_getElem? (i := 23) rfl), iw_1 _ (List.mem_of_getElem? (i := 5) rfl), ⟨by decide +kernel, by decide +kernel, by decide +kernel⟩, rfl, rfl⟩, iw_17 _ (List.mem_of_getElem? (i := 21) rfl), iw_17 _ (List.mem_of_getElem? (i := 22) rfl), _, rfl, rfl⟩
theorem ceX7_isLine : rf_ceV mX7_isLine 1 7 := ⟨⟨by decide +kernel, iw_20 _ (List.mem_of_getElem? (i := 8) rfl), iw_1 _ (List.mem_of_getElem? (i := 5) rfl), ⟨by decide +kernel, by decide +kernel, by decide +kernel⟩, rfl, rfl⟩, iw_20 _ (List.mem_of_getElem? (i := 6) rfl), iw_20 _ (List.mem_of_getElem? (i := 7) rfl), _, rfl, rfl⟩
theorem ceX7_isPage : rf_ceV mX7_isPage 1 7 := ⟨⟨by decide +kernel, iw_23 _ (List.mem_of_getElem? (i := 4) rfl), iw_1 _ (List.mem_of_getElem? (i := 5) rfl), ⟨by decide +kernel, by decide +kernel, by decide +kernel⟩, rfl, rfl⟩, iw_23 _ (List.mem_of_getElem? (i := 2) rfl), iw_23 _ (List.mem_of_getElem? (i := 3) rfl), _, rfl, rfl⟩
theorem ceX7_isReader : rf_ceV mX7_isReader 1 7 := ⟨⟨by decide +kernel, iw_22 _ (List.mem_of_getElem? (i := 1) rfl), iw_1 _ (List.mem_of_getElem? (i := 5) rfl), ⟨by decide +kernel, by decide +kernel, by decide +kernel⟩, rfl, rfl⟩, iw_21 _ (List.mem_of_getElem? (i := 23) rfl), iw_22 _ (List.mem_of_getElem? (i := 0) rfl), _, rfl, rfl⟩
theorem ceX7_isTrue : rf_ceV mX7_isTrue 2 7 := ⟨⟨by decide +kernel, iw_35 _ (List.mem_of_getElem? (i := 22) rfl), iw_1 _ (List.mem_of_getElem? (i := 5) rfl), ⟨by decide +kernel, by decide +kernel, by decide +kernel⟩, rfl, rfl⟩, iw_35 _ (List.mem_of_getElem? (i := 20) rfl), iw_35 _ (List.mem_of_getElem? (i := 21) rfl), _, rfl, rfl⟩
theorem ceX7_isWord : rf_ceV mX7_isWord 8 7 := ⟨⟨by decide +kernel, iw_14 _ (List.mem_of_getElem? (i := 8) rfl), iw_1 _ (List.mem_of_getElem? (i := 5) rfl), ⟨by decide +kernel, by decide +kernel, by decide +kernel⟩, rfl, rfl⟩, iw_14 _ (List.mem_of_getElem? (i := 6) rfl), iw_14 _ (List.mem_of_getElem? (i := 7) rfl), _, rfl, rfl⟩
theorem ceX7_judge : rf_ceV mX7_judge 0 7 := ⟨⟨by decide +kernel, iw_39 _ (List.mem_of_getElem? (i := 19) rfl), iw_1 _ (List.mem_of_getElem? (i := 5) rfl), ⟨by decide +kernel, by decide +kernel, by decide +kernel⟩, rfl, rfl⟩, iw_39 _ (List.mem_of_getElem? (i := 17) rfl), iw_39 _ (List.mem_of_getElem? (i := 18) rfl), _, rfl, rfl⟩
theorem ceX7_keep : rf_ceV mX7_keep 1 7 := ⟨⟨by decide +kernel, iw_40 _ (List.mem_of_getElem? (i := 21) rfl), iw_1 _ (List.mem_of_getElem? (i := 5) rfl), ⟨by decide +kernel, by decide +kernel, by decide +kernel⟩, rfl, rfl⟩, iw_40 _ (List.mem_of_getElem? (i := 19) rfl), iw_40 _ (List.mem_of_getElem? (i := 20) rfl), _, rfl, rfl⟩
theorem ceX7_keptMany : rf_ceV mX7_keptMany 1 7 := ⟨⟨by decide +kernel, iw_17 _ (List.mem_of_getElem? (i := 19) rfl), iw_1 _ (List.mem_of_getElem? (i := 5) rfl), ⟨by decide +kernel, by decide +kernel, by decide +kernel⟩, rfl, rfl⟩, iw_17 _ (List.mem_of_getElem? (i := 17) rfl), iw_17 _ (List.mem_of_getElem? (i := 18) rfl), _, rfl, rfl⟩
theorem ceX7_kindHere : rf_ceV mX7_kindHere 0 7 := ⟨⟨by decide +kernel, iw_14 _ (List.mem_of_getElem? (i := 23) rfl), iw_1 _ (List.mem_of_getElem? (i := 5) rfl), ⟨by decide +kernel, by decide +kernel, by decide +kernel⟩, rfl, rfl⟩, iw_14 _ (List.mem_of_getElem? (i := 21) rfl), iw_14 _ (List.mem_of_getElem? (i := 22) rfl), _, rfl, rfl⟩
theorem ceX7_know : rf_ceV mX7_know 4 7 := ⟨⟨by decide +kernel, iw_25 _ (List.mem_of_getElem? (i := 18) rfl), iw_1 _ (List.mem_of_getElem? (i := 5) rfl), ⟨by decide +kernel, by decide +kernel, by decide +kernel⟩, rfl, rfl⟩, iw_25 _ (List.mem_of_getElem? (i := 16) rfl), iw_25 _ (List.mem_of_getElem? (i := 17) rfl), _, rfl, rfl⟩
theorem ceX7_knowers : rf_ceV mX7_knowers 1 7 := ⟨⟨by decide +kernel, iw_20 _ (List.mem_of_getElem? (i := 16) rfl), iw_1 _ (List.mem_of_getElem? (i := 5) rfl), ⟨by decide +kernel, by decide +kernel, by decide +kernel⟩, rfl, rfl⟩, iw_20 _ (List.mem_of_getElem? (i := 14) rfl), iw_20 _ (List.mem_of_getElem? (i := 15) rfl), _, rfl, rfl⟩
theorem ceX7_knownBy : rf_ceV mX7_knownBy 1 7 := ⟨⟨by decide +kernel, iw_22 _ (List.mem_of_getElem? (i := 5) rfl), iw_1 _ (List.mem_of_getElem? (i := 5) rfl), ⟨by decide +kernel, by decide +kernel, by decide +kernel⟩, rfl, rfl⟩, iw_22 _ (List.mem_of_getElem? (i := 3) rfl), iw_22 _ (List.mem_of_getElem? (i := 4) rfl), _, rfl, rfl⟩
theorem ceX7_knows : rf_ceV mX7_knows 3 7 := ⟨⟨by decide +kernel, iw_23 _ (List.mem_of_getElem? (i := 19) rfl), iw_1 _ (List.mem_of_getElem? (i := 5) rfl), ⟨by decide +kernel, by decide +kernel, by decide +kernel⟩, rfl, rfl⟩, iw_23 _ (List.mem_of_getElem? (i := 17) rfl), iw_23 _ (List.mem_of_getElem? (i := 18) rfl), _, rfl, rfl⟩
theorem ceX7_lesser : rf_ceS mX7_lesser 3 := ⟨⟨by decide +kernel, iw_36 _ (List.mem_of_getElem? (i := 1) rfl), iw_1 _ (List.mem_of_getElem? (i := 5) rfl), ⟨by decide +kernel, by decide +kernel, by decide +kernel⟩, rfl, rfl⟩, iw_36 _ (List.mem_of_getElem? (i := 0) rfl)⟩
theorem ceX7_library : rf_ceV mX7_library 0 7 := ⟨⟨by decide +kernel, iw_13 _ (List.mem_of_getElem? (i := 2) rfl), iw_1 _ (List.mem_of_getElem? (i := 5) rfl), ⟨by decide +kernel, by decide +kernel, by decide +kernel⟩, rfl, rfl⟩, iw_13 _ (List.mem_of_getElem? (i := 0) rfl), iw_13 _ (List.mem_of_getElem? (i := 1) rfl), _, rfl, rfl⟩
theorem ceX7_life : rf_ceV mX7_life 3 7 := ⟨⟨by decide +kernel, iw_36 _ (List.mem_of_getElem? (i := 11) rfl), iw_1 _ (List.mem_of_getElem? (i := 5) rfl), ⟨by decide +kernel, by decide +kernel, by decide +kernel⟩, rfl, rfl⟩, iw_36 _ (List.mem_of_getElem? (i := 9) rfl), iw_36 _ (List.mem_of_getElem? (i := 10) rfl), _, rfl, rfl⟩
theorem ceX7_line : rf_ceV mX7_line 2 7 := ⟨⟨by decide +kernel, iw_20 _ (List.mem_of_getElem? (i := 3) rfl), iw_1 _ (List.mem_of_getElem? (i := 5) rfl), ⟨by decide +kernel, by decide +kernel, by decide +kernel⟩, rfl, rfl⟩, iw_20 _ (List.mem_of_getElem? (i := 1) rfl), iw_20 _ (List.mem_of_getElem? (i := 2) rfl), _, rfl, rfl⟩
theorem ceX7_make : rf_ceV mX7_make 3 7 := ⟨⟨by decide +kernel, iw_27 _ (List.mem_of_getElem? (i := 0) rfl), iw_1 _ (List.mem_of_getElem? (i := 5) rfl), ⟨by decide +kernel, by decide +kernel, by decide +kernel⟩, rfl, rfl⟩, iw_26 _ (List.mem_of_getElem? (i := 22) rfl), iw_26 _ (List.mem_of_getElem? (i := 23) rfl), _, rfl, rfl⟩
theorem ceX7_note : rf_ceV mX7_note 1 7 := ⟨⟨by decide +kernel, iw_39 _ (List.mem_of_getElem? (i := 2) rfl), iw_1 _ (List.mem_of_getElem? (i := 5) rfl), ⟨by decide +kernel, by decide +kernel, by decide +kernel⟩, rfl, rfl⟩, iw_39 _ (List.mem_of_getElem? (i := 0) rfl), iw_39 _ (List.mem_of_getElem? (i := 1) rfl), _, rfl, rfl⟩
theorem ceX7_one : rf_ceS mX7_one 1 := ⟨⟨by decide +kernel, iw_18 _ (List.mem_of_getElem? (i := 2) rfl), iw_1 _ (List.mem_of_getElem? (i := 5) rfl), ⟨by decide +kernel, by decide +kernel, by decide +kernel⟩, rfl, rfl⟩, iw_18 _ (List.mem_of_getElem? (i := 1) rfl)⟩
theorem ceX7_ones : rf_ceS mX7_ones 1 := ⟨⟨by decide +kernel, iw_20 _ (List.mem_of_getElem? (i := 23) rfl), iw_1 _ (List.mem_of_getElem? (i := 5) rfl), ⟨by decide +kernel, by decide +kernel, by decide +kernel⟩, rfl, rfl⟩, iw_20 _ (List.mem_of_getElem? (i := 22) rfl)⟩
theorem ceX7_page : rf_ceV mX7_page 2 7 := ⟨⟨by decide +kernel, iw_23 _ (List.mem_of_getElem? (i := 0) rfl), iw_1 _ (List.mem_of_getElem? (i := 5) rfl), ⟨by decide +kernel, by decide +kernel, by decide +kernel⟩, rfl, rfl⟩, iw_22 _ (List.mem_of_getElem? (i := 22) rfl), iw_22 _ (List.mem_of_getElem? (i := 23) rfl), _, rfl, rfl⟩
theorem ceX7_pagesOf : rf_ceV mX7_pagesOf 1 7 := ⟨⟨by decide +kernel, iw_20 _ (List.mem_of_getElem? (i := 12) rfl), iw_1 _ (List.mem_of_getElem? (i := 5) rfl), ⟨by decide +kernel, by decide +kernel, by decide +kernel⟩, rfl, rfl⟩, iw_20 _ (List.mem_of_getElem? (i := 10) rfl), iw_20 _ (List.mem_of_getElem? (i := 11) rfl), _, rfl, rfl⟩
theorem ceX7_palest : rf_ceV mX7_palest 2 7 := ⟨⟨by decide +kernel, iw_32 _ (List.mem_of_getElem? (i := 14) rfl), iw_1 _ (List.mem_of_getElem? (i := 5) rfl), ⟨by decide +kernel, by decide +kernel, by decide +kernel⟩, rfl, rfl⟩, iw_32 _ (List.mem_of_getElem? (i := 12) rfl), iw_32 _ (List.mem_of_getElem? (i := 13) rfl), _, rfl, rfl⟩
theorem ceX7_read : rf_ceV mX7_read 2 7 := ⟨⟨by decide +kernel, iw_25 _ (List.mem_of_getElem? (i := 9) rfl), iw_1 _ (List.mem_of_getElem? (i := 5) rfl), ⟨by decide +kernel, by decide +kernel, by decide +kernel⟩, rfl, rfl⟩, iw_25 _ (List.mem_of_getElem? (i := 7) rfl), iw_25 _ (List.mem_of_getElem? (i := 8) rfl), _, rfl, rfl⟩
theorem ceX7_readMany : rf_ceV mX7_readMany 1 7 := ⟨⟨by decide +kernel, iw_23 _ (List.mem_of_getElem? (i := 8) rfl), iw_1 _ (List.mem_of_getElem? (i := 5) rfl), ⟨by decide +kernel, by decide +kernel, by decide +kernel⟩, rfl, rfl⟩, iw_23 _ (List.mem_of_getElem? (i := 6) rfl), iw_23 _ (List.mem_of_getElem? (i := 7) rfl), _, rfl, rfl⟩
theorem ceX7_readPage : rf_ceV mX7_readPage 3 7 := ⟨⟨by decide +kernel, iw_25 _ (List.mem_of_getElem? (i := 14) rfl), iw_1 _ (List.mem_of_getElem? (i := 5) rfl), ⟨by decide +kernel, by decide +kernel, by decide +kernel⟩, rfl, rfl⟩, iw_25 _ (List.mem_of_getElem? (i := 12) rfl), iw_25 _ (List.mem_of_getElem? (i := 13) rfl), _, rfl, rfl⟩
theorem ceX7_reader : rf_ceV mX7_reader 2 7 := ⟨⟨by decide +kernel, iw_21 _ (List.mem_of_getElem? (i := 21) rfl), iw_1 _ (List.mem_of_getElem? (i := 5) rfl), ⟨by decide +kernel, by decide +kernel, by decide +kernel⟩, rfl, rfl⟩, iw_21 _ (List.mem_of_getElem? (i := 19) rfl), iw_21 _ (List.mem_of_getElem? (i := 20) rfl), _, rfl, rfl⟩
theorem ceX7_reading : rf_ceV mX7_reading 2 7 := ⟨⟨by decide +kernel, iw_24 _ (List.mem_of_getElem? (i := 6) rfl), iw_1 _ (List.mem_of_getElem? (i := 5) rfl), ⟨by decide +kernel, by decide +kernel, by decide +kernel⟩, rfl, rfl⟩, iw_24 _ (List.mem_of_getElem? (i := 4) rfl), iw_24 _ (List.mem_of_getElem? (i := 5) rfl), _, rfl, rfl⟩
theorem ceX7_request : rf_ceV mX7_request 3 7 := ⟨⟨by decide +kernel, iw_30 _ (List.mem_of_getElem? (i := 20) rfl), iw_1 _ (List.mem_of_getElem? (i := 5) rfl), ⟨by decide +kernel, by decide +kernel, by decide +kernel⟩, rfl, rfl⟩, iw_30 _ (List.mem_of_getElem? (i := 18) rfl), iw_30 _ (List.mem_of_getElem? (i := 19) rfl), _, rfl, rfl⟩
theorem ceX7_right : rf_ceV mX7_right 1 7 := ⟨⟨by decide +kernel, iw_36 _ (List.mem_of_getElem? (i := 22) rfl), iw_1 _ (List.mem_of_getElem? (i := 5) rfl), ⟨by decide +kernel, by decide +kernel, by decide +kernel⟩, rfl, rfl⟩, iw_36 _ (List.mem_of_getElem? (i := 20) rfl), iw_36 _ (List.mem_of_getElem? (i := 21) rfl), _, rfl, rfl⟩
theorem ceX7_run : rf_ceV mX7_run 1 7 := ⟨⟨by decide +kernel, iw_29 _ (List.mem_of_getElem? (i := 14) rfl), iw_1 _ (List.mem_of_getElem? (i := 5) rfl), ⟨by decide +kernel, by decide +kernel, by decide +kernel⟩, rfl, rfl⟩, iw_29 _ (List.mem_of_getElem? (i := 12) rfl), iw_29 _ (List.mem_of_getElem? (i := 13) rfl), _, rfl, rfl⟩
theorem ceX7_runDays : rf_ceV mX7_runDays 2 7 := ⟨⟨by decide +kernel, iw_29 _ (List.mem_of_getElem? (i := 19) rfl), iw_1 _ (List.mem_of_getElem? (i := 5) rfl), ⟨by decide +kernel, by decide +kernel, by decide +kernel⟩, rfl, rfl⟩, iw_29 _ (List.mem_of_getElem? (i := 17) rfl), iw_29 _ (List.mem_of_getElem? (i := 18) rfl), _, rfl, rfl⟩
theorem ceX7_seed : rf_ceV mX7_seed 1 7 := ⟨⟨by decide +kernel, iw_40 _ (List.mem_of_getElem? (i := 3) rfl), iw_1 _ (List.mem_of_getElem? (i := 5) rfl), ⟨by decide +kernel, by decide +kernel, by decide +kernel⟩, rfl, rfl⟩, iw_40 _ (List.mem_of_getElem? (i := 1) rfl), iw_40 _ (List.mem_of_getElem? (i := 2) rfl), _, rfl, rfl⟩
theorem ceX7_span : rf_ceV mX7_span 3 7 := ⟨⟨by decide +kernel, iw_38 _ (List.mem_of_getElem? (i := 17) rfl), iw_1 _ (List.mem_of_getElem? (i := 5) rfl), ⟨by decide +kernel, by decide +kernel, by decide +kernel⟩, rfl, rfl⟩, iw_38 _ (List.mem_of_getElem? (i := 15) rfl), iw_38 _ (List.mem_of_getElem? (i := 16) rfl), _, rfl, rfl⟩
theorem ceX7_sumBy : rf_ceV mX7_sumBy 2 7 := ⟨⟨by decide +kernel, iw_34 _ (List.mem_of_getElem? (i := 4) rfl), iw_1 _ (List.mem_of_getElem? (i := 5) rfl), ⟨by decide +kernel, by decide +kernel, by decide +kernel⟩, rfl, rfl⟩, iw_34 _ (List.mem_of_getElem? (i := 2) rfl), iw_34 _ (List.mem_of_getElem? (i := 3) rfl), _, rfl, rfl⟩
theorem ceX7_takeClause : rf_ceV mX7_takeClause 0 7 := ⟨⟨by decide +kernel, iw_13 _ (List.mem_of_getElem? (i := 20) rfl), iw_1 _ (List.mem_of_getElem? (i := 5) rfl), ⟨by decide +kernel, by decide +kernel, by decide +kernel⟩, rfl, rfl⟩, iw_13 _ (List.mem_of_getElem? (i := 18) rfl), iw_13 _ (List.mem_of_getElem? (i := 19) rfl), _, rfl, rfl⟩
theorem ceX7_takeNumber : rf_ceV mX7_takeNumber 2 7 := ⟨⟨by decide +kernel, iw_14 _ (List.mem_of_getElem? (i := 16) rfl), iw_1 _ (List.mem_of_getElem? (i := 5) rfl), ⟨by decide +kernel, by decide +kernel, by decide +kernel⟩, rfl, rfl⟩, iw_14 _ (List.mem_of_getElem? (i := 14) rfl), iw_14 _ (List.mem_of_getElem? (i := 15) rfl), _, rfl, rfl⟩
theorem ceX7_takeWord : rf_ceV mX7_takeWord 0 7 := ⟨⟨by decide +kernel, iw_14 _ (List.mem_of_getElem? (i := 1) rfl), iw_1 _ (List.mem_of_getElem? (i := 5) rfl), ⟨by decide +kernel, by decide +kernel, by decide +kernel⟩, rfl, rfl⟩, iw_13 _ (List.mem_of_getElem? (i := 23) rfl), iw_14 _ (List.mem_of_getElem? (i := 0) rfl), _, rfl, rfl⟩
theorem ceX7_teach : rf_ceV mX7_teach 3 7 := ⟨⟨by decide +kernel, iw_28 _ (List.mem_of_getElem? (i := 1) rfl), iw_1 _ (List.mem_of_getElem? (i := 5) rfl), ⟨by decide +kernel, by decide +kernel, by decide +kernel⟩, rfl, rfl⟩, iw_27 _ (List.mem_of_getElem? (i := 23) rfl), iw_28 _ (List.mem_of_getElem? (i := 0) rfl), _, rfl, rfl⟩
theorem ceX7_tear : rf_ceV mX7_tear 0 7 := ⟨⟨by decide +kernel, iw_39 _ (List.mem_of_getElem? (i := 11) rfl), iw_1 _ (List.mem_of_getElem? (i := 5) rfl), ⟨by decide +kernel, by decide +kernel, by decide +kernel⟩, rfl, rfl⟩, iw_39 _ (List.mem_of_getElem? (i := 9) rfl), iw_39 _ (List.mem_of_getElem? (i := 10) rfl), _, rfl, rfl⟩
theorem ceX7_toKnow : rf_ceV mX7_toKnow 2 7 := ⟨⟨by decide +kernel, iw_35 _ (List.mem_of_getElem? (i := 14) rfl), iw_1 _ (List.mem_of_getElem? (i := 5) rfl), ⟨by decide +kernel, by decide +kernel, by decide +kernel⟩, rfl, rfl⟩, iw_35 _ (List.mem_of_getElem? (i := 12) rfl), iw_35 _ (List.mem_of_getElem? (i := 13) rfl), _, rfl, rfl⟩
theorem ceX7_told : rf_ceV mX7_told 1 7 := ⟨⟨by decide +kernel, iw_17 _ (List.mem_of_getElem? (i := 15) rfl), iw_1 _ (List.mem_of_getElem? (i := 5) rfl), ⟨by decide +kernel, by decide +kernel, by decide +kernel⟩, rfl, rfl⟩, iw_17 _ (List.mem_of_getElem? (i := 13) rfl), iw_17 _ (List.mem_of_getElem? (i := 14) rfl), _, rfl, rfl⟩
theorem ceX7_vote : rf_ceV mX7_vote 1 7 := ⟨⟨by decide +kernel, iw_20 _ (List.mem_of_getElem? (i := 20) rfl), iw_1 _ (List.mem_of_getElem? (i := 5) rfl), ⟨by decide +kernel, by decide +kernel, by decide +kernel⟩, rfl, rfl⟩, iw_20 _ (List.mem_of_getElem? (i := 18) rfl), iw_20 _ (List.mem_of_getElem? (i := 19) rfl), _, rfl, rfl⟩
theorem ceX7_votesFor : rf_ceV mX7_votesFor 2 7 := ⟨⟨by decide +kernel, iw_21 _ (List.mem_of_getElem? (i := 3) rfl), iw_1 _ (List.mem_of_getElem? (i := 5) rfl), ⟨by decide +kernel, by decide +kernel, by decide +kernel⟩, rfl, rfl⟩, iw_21 _ (List.mem_of_getElem? (i := 1) rfl), iw_21 _ (List.mem_of_getElem? (i := 2) rfl), _, rfl, rfl⟩
theorem ceX7_want : rf_ceV mX7_want 3 7 := ⟨⟨by decide +kernel, iw_14 _ (List.mem_of_getElem? (i := 12) rfl), iw_1 _ (List.mem_of_getElem? (i := 5) rfl), ⟨by decide +kernel, by decide +kernel, by decide +kernel⟩, rfl, rfl⟩, iw_14 _ (List.mem_of_getElem? (i := 10) rfl), iw_14 _ (List.mem_of_getElem? (i := 11) rfl), _, rfl, rfl⟩
theorem ceX7_whence : rf_ceV mX7_whence 2 7 := ⟨⟨by decide +kernel, iw_38 _ (List.mem_of_getElem? (i := 4) rfl), iw_1 _ (List.mem_of_getElem? (i := 5) rfl), ⟨by decide +kernel, by decide +kernel, by decide +kernel⟩, rfl, rfl⟩, iw_38 _ (List.mem_of_getElem? (i := 2) rfl), iw_38 _ (List.mem_of_getElem? (i := 3) rfl), _, rfl, rfl⟩
theorem ceX7_where : rf_ceV mX7_where 1 7 := ⟨⟨by decide +kernel, iw_30 _ (List.mem_of_getElem? (i := 7) rfl), iw_1 _ (List.mem_of_getElem? (i := 5) rfl), ⟨by decide +kernel, by decide +kernel, by decide +kernel⟩, rfl, rfl⟩, iw_30 _ (List.mem_of_getElem? (i := 5) rfl), iw_30 _ (List.mem_of_getElem? (i := 6) rfl), _, rfl, rfl⟩
theorem ceX7_write : rf_ceV mX7_write 2 7 := ⟨⟨by decide +kernel, iw_27 _ (List.mem_of_getElem? (i := 16) rfl), iw_1 _ (List.mem_of_getElem? (i := 5) rfl), ⟨by decide +kernel, by decide +kernel, by decide +kernel⟩, rfl, rfl⟩, iw_27 _ (List.mem_of_getElem? (i := 14) rfl), iw_27 _ (List.mem_of_getElem? (i := 15) rfl), _, rfl, rfl⟩
theorem nJ6_265 : Cond.constant RJ6 265 (1431655765) ∈ wsL_law := iw_19 _ (List.mem_of_getElem? (i := 17) rfl)
theorem nJ6_266 : Cond.constant RJ6 266 (858993459) ∈ wsL_law := iw_19 _ (List.mem_of_getElem? (i := 18) rfl)
theorem nJ6_267 : Cond.constant RJ6 267 (252645135) ∈ wsL_law := iw_19 _ (List.mem_of_getElem? (i := 19) rfl)
theorem nX3_25 : Cond.constant RX3 25 (-1000000004) ∈ wsL_law := iw_30 _ (List.mem_of_getElem? (i := 16) rfl)
theorem nX5_119 : Cond.constant RX5 119 (-1000000004) ∈ wsL_law := iw_26 _ (List.mem_of_getElem? (i := 7) rfl)
theorem nX5_127 : Cond.constant RX5 127 (1103515245) ∈ wsL_law := iw_26 _ (List.mem_of_getElem? (i := 14) rfl)
theorem nX5_130 : Cond.constant RX5 130 (2147483647) ∈ wsL_law := iw_26 _ (List.mem_of_getElem? (i := 15) rfl)
theorem nX5_131 : Cond.constant RX5 131 (65536) ∈ wsL_law := iw_26 _ (List.mem_of_getElem? (i := 16) rfl)
theorem nX6_70 : Cond.constant RX6 70 (-1000000002) ∈ wsL_law := iw_6 _ (List.mem_of_getElem? (i := 7) rfl)
theorem nX6_74 : Cond.constant RX6 74 (-1000000004) ∈ wsL_law := iw_6 _ (List.mem_of_getElem? (i := 9) rfl)
theorem nX6_127 : Cond.constant RX6 127 (-1000000001) ∈ wsL_law := iw_18 _ (List.mem_of_getElem? (i := 7) rfl)
theorem nX6_194 : Cond.constant RX6 194 (-1000000003) ∈ wsL_law := iw_24 _ (List.mem_of_getElem? (i := 12) rfl)
theorem nX6_292 : Cond.constant RX6 292 (1000000000) ∈ wsL_law := iw_36 _ (List.mem_of_getElem? (i := 6) rfl)
theorem nX6_293 : Cond.constant RX6 293 (1000000) ∈ wsL_law := iw_36 _ (List.mem_of_getElem? (i := 18) rfl)
theorem nX7_57 : Cond.constantLong RX7 57 (8) ∈ wsL_law := iw_6 _ (List.mem_of_getElem? (i := 18) rfl)
theorem nX7_63 : Cond.constant RX7 63 (-1000000002) ∈ wsL_law := iw_6 _ (List.mem_of_getElem? (i := 19) rfl)
theorem nX7_67 : Cond.constant RX7 67 (-1000000004) ∈ wsL_law := iw_6 _ (List.mem_of_getElem? (i := 21) rfl)
theorem nX7_68 : Cond.constantLong RX7 68 (255) ∈ wsL_law := iw_6 _ (List.mem_of_getElem? (i := 22) rfl)
theorem nX7_83 : Cond.constantLong RX7 83 (97) ∈ wsL_law := iw_14 _ (List.mem_of_getElem? (i := 2) rfl)
theorem nX7_85 : Cond.constantLong RX7 85 (122) ∈ wsL_law := iw_14 _ (List.mem_of_getElem? (i := 3) rfl)
theorem nX7_90 : Cond.constantLong RX7 90 (48) ∈ wsL_law := iw_14 _ (List.mem_of_getElem? (i := 17) rfl)
theorem nX7_92 : Cond.constantLong RX7 92 (57) ∈ wsL_law := iw_14 _ (List.mem_of_getElem? (i := 18) rfl)
theorem nX7_98 : Cond.constant RX7 98 (99999) ∈ wsL_law := iw_14 _ (List.mem_of_getElem? (i := 19) rfl)
theorem nX7_123 : Cond.constantLong RX7 123 (160) ∈ wsL_law := iw_13 _ (List.mem_of_getElem? (i := 7) rfl)
theorem nX7_125 : Cond.constantLong RX7 125 (415) ∈ wsL_law := iw_13 _ (List.mem_of_getElem? (i := 8) rfl)
theorem nX7_127 : Cond.constantLong RX7 127 (120) ∈ wsL_law := iw_13 _ (List.mem_of_getElem? (i := 9) rfl)
theorem nX7_129 : Cond.constantLong RX7 129 (159) ∈ wsL_law := iw_13 _ (List.mem_of_getElem? (i := 10) rfl)
theorem nX7_165 : Cond.constant RX7 165 (-1000000001) ∈ wsL_law := iw_20 _ (List.mem_of_getElem? (i := 4) rfl)
theorem nX7_181 : Cond.constantLong RX7 181 (2) ∈ wsL_law := iw_24 _ (List.mem_of_getElem? (i := 7) rfl)
theorem nX7_187 : Cond.constant RX7 187 (-1000000003) ∈ wsL_law := iw_25 _ (List.mem_of_getElem? (i := 10) rfl)
theorem nX7_192 : Cond.constantLong RX7 192 (1103515245) ∈ wsL_law := iw_27 _ (List.mem_of_getElem? (i := 5) rfl)
theorem nX7_194 : Cond.constantLong RX7 194 (12345) ∈ wsL_law := iw_27 _ (List.mem_of_getElem? (i := 6) rfl)
theorem nX7_196 : Cond.constantLong RX7 196 (2147483648) ∈ wsL_law := iw_27 _ (List.mem_of_getElem? (i := 7) rfl)
theorem nX7_198 : Cond.constant RX7 198 (65536) ∈ wsL_law := iw_27 _ (List.mem_of_getElem? (i := 8) rfl)
theorem nX7_206 : Cond.constantLong RX7 206 (200) ∈ wsL_law := iw_28 _ (List.mem_of_getElem? (i := 14) rfl)
theorem nX7_212 : Cond.constantLong RX7 212 (100) ∈ wsL_law := iw_29 _ (List.mem_of_getElem? (i := 15) rfl)
theorem nX7_218 : Cond.constantLong RX7 218 (99) ∈ wsL_law := iw_30 _ (List.mem_of_getElem? (i := 21) rfl)
theorem nX7_248 : Cond.constantLong RX7 248 (9) ∈ wsL_law := iw_36 _ (List.mem_of_getElem? (i := 12) rfl)
theorem nX7_250 : Cond.constant RX7 250 (1000000000) ∈ wsL_law := iw_36 _ (List.mem_of_getElem? (i := 13) rfl)
theorem nX7_251 : Cond.constantLong RX7 251 (40) ∈ wsL_law := iw_36 _ (List.mem_of_getElem? (i := 23) rfl)
theorem nX7_253 : Cond.constant RX7 253 (1000000) ∈ wsL_law := iw_37 _ (List.mem_of_getElem? (i := 0) rfl)
theorem nX7_254 : Cond.constantLong RX7 254 (9999) ∈ wsL_law := iw_37 _ (List.mem_of_getElem? (i := 16) rfl)
theorem nX7_256 : Cond.constantLong RX7 256 (20) ∈ wsL_law := iw_38 _ (List.mem_of_getElem? (i := 18) rfl)
theorem nX7_258 : Cond.constantLong RX7 258 (16) ∈ wsL_law := iw_39 _ (List.mem_of_getElem? (i := 3) rfl)
theorem ev_mmin {Lay : List rf_Cell} {y : rf_Me} {pc : Nat} {L : List (Option Value)} {st : List Value} {M : rf_Mem} {r : Option Value} {M' : rf_Mem} {idx : Nat} {x z : Int32} (hd : decode y.2.1 pc = .ok (.invokestatic idx, 3)) (hw : Cond.methodLink y.1.cls idx yJ9_min_7cf53 ∈ wsL_law) (hfr : 1 ≤ y.2.2.2.2.frames) (hlo : (st.map fun v => v.category).sum + 13 ≤ y.2.2.2.2.locals) (h : Ev Lay y (pc + 3) L (.int (if z < x then z else x) :: st) M r M') : Ev Lay y pc L (.int z :: .int x :: st) M r M' := by
  intro p l e s m args below meth c D g ad A H locs ls C hP hD hS hl
  have hts := C.2.2.2.2.2.2.1
  have w1 : Cond.static Lib.Math.min.name ∈ wsL_law := iw_16 _ (List.mem_of_getElem? (i := 21) rfl)
  have w2 : Cond.initialized "java/lang/Math" ∈ wsL_law := iw_16 _ (List.mem_of_getElem? (i := 22) rfl)
  have w3 : Cond.code Lib.Math.min.name Lib.Math.min.code 2 (some .int) ∈ wsL_law := iw_16 _ (List.mem_of_getElem? (i := 23) rfl)
  exact va_mmin C.1 C.2.1 (C.2.2.2.2.1.trans hl.1.symm) C.2.2.2.2.2.1 (hts _ hw) (hts _ w1) (hts _ w2) (hts _ w3) hfr (by rw [rf_cat]; exact hlo) (Nat.zero_le _) (Nat.zero_le _) hd (h p l e s m args below meth c D g ad A H locs ls C hP hD hS hl)
theorem ev_mmax {Lay : List rf_Cell} {y : rf_Me} {pc : Nat} {L : List (Option Value)} {st : List Value} {M : rf_Mem} {r : Option Value} {M' : rf_Mem} {idx : Nat} {x z : Int32} (hd : decode y.2.1 pc = .ok (.invokestatic idx, 3)) (hw : Cond.methodLink y.1.cls idx yJ9_max_7cf53 ∈ wsL_law) (hfr : 1 ≤ y.2.2.2.2.frames) (hlo : (st.map fun v => v.category).sum + 13 ≤ y.2.2.2.2.locals) (h : Ev Lay y (pc + 3) L (.int (if x < z then z else x) :: st) M r M') : Ev Lay y pc L (.int z :: .int x :: st) M r M' := by
  intro p l e s m args below meth c D g ad A H locs ls C hP hD hS hl
  have hts := C.2.2.2.2.2.2.1
  have w1 : Cond.static Lib.Math.max.name ∈ wsL_law := iw_38 _ (List.mem_of_getElem? (i := 12) rfl)
  have w2 : Cond.initialized "java/lang/Math" ∈ wsL_law := iw_16 _ (List.mem_of_getElem? (i := 22) rfl)
  have w3 : Cond.code Lib.Math.max.name Lib.Math.max.code 2 (some .int) ∈ wsL_law := iw_38 _ (List.mem_of_getElem? (i := 13) rfl)
  exact va_mmax C.1 C.2.1 (C.2.2.2.2.1.trans hl.1.symm) C.2.2.2.2.2.1 (hts _ hw) (hts _ w1) (hts _ w2) (hts _ w3) hfr (by rw [rf_cat]; exact hlo) (Nat.zero_le _) (Nat.zero_le _) hd (h p l e s m args below meth c D g ad A H locs ls C hP hD hS hl)
end
