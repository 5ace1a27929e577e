section
/-- a private method of a class that the tables say can be made, by its rows of tables_1 -/
def lw_okq (q : MethodName × Nat) : Prop := (q.1.cls ≠ "java/lang/invoke/MethodHandle" ∧ q.1.cls ≠ "java/lang/invoke/VarHandle") ∧ Cond.instantiable q.1.cls q.2 ∈ tables_1 ∧ Cond.privateMethod q.1 ∈ tables_1 ∧ Cond.instanceMethod q.1 ∈ tables_1
theorem lw_p0 : lw_okq (⟨"ClassProbe", "writeText", "(II)I"⟩, 3) := ⟨⟨by decide +kernel, by decide +kernel⟩, List.mem_of_getElem? (i := 18) (by decide +kernel), List.mem_of_getElem? (i := 95) (by decide +kernel), List.mem_of_getElem? (i := 96) (by decide +kernel)⟩
theorem lw_p1 : lw_okq (⟨"ClassProbe$Script", "write", "(II)Z"⟩, 1) := ⟨⟨by decide +kernel, by decide +kernel⟩, List.mem_of_getElem? (i := 26) (by decide +kernel), List.mem_of_getElem? (i := 108) (by decide +kernel), List.mem_of_getElem? (i := 109) (by decide +kernel)⟩
theorem lw_p2 : lw_okq (⟨"ClassProbe$Script", "addName", "(I)V"⟩, 1) := ⟨⟨by decide +kernel, by decide +kernel⟩, List.mem_of_getElem? (i := 26) (by decide +kernel), List.mem_of_getElem? (i := 173) (by decide +kernel), List.mem_of_getElem? (i := 174) (by decide +kernel)⟩
theorem lw_p3 : lw_okq (⟨"ClassProbe$Script", "addCode", "(IC)V"⟩, 1) := ⟨⟨by decide +kernel, by decide +kernel⟩, List.mem_of_getElem? (i := 26) (by decide +kernel), List.mem_of_getElem? (i := 180) (by decide +kernel), List.mem_of_getElem? (i := 181) (by decide +kernel)⟩
theorem lw_p4 : lw_okq (⟨"ClassProbe$Script", "addWithChange", "(Ljava/lang/String;CC)V"⟩, 1) := ⟨⟨by decide +kernel, by decide +kernel⟩, List.mem_of_getElem? (i := 26) (by decide +kernel), List.mem_of_getElem? (i := 292) (by decide +kernel), List.mem_of_getElem? (i := 293) (by decide +kernel)⟩
theorem lw_p5 : lw_okq (⟨"ClassProbe$Script", "addOwnName", "(Ljava/lang/String;)V"⟩, 1) := ⟨⟨by decide +kernel, by decide +kernel⟩, List.mem_of_getElem? (i := 26) (by decide +kernel), List.mem_of_getElem? (i := 343) (by decide +kernel), List.mem_of_getElem? (i := 344) (by decide +kernel)⟩
theorem lw_p6 : lw_okq (⟨"ClassProbe$Script", "addBrackets", "(I)V"⟩, 1) := ⟨⟨by decide +kernel, by decide +kernel⟩, List.mem_of_getElem? (i := 26) (by decide +kernel), List.mem_of_getElem? (i := 347) (by decide +kernel), List.mem_of_getElem? (i := 348) (by decide +kernel)⟩
theorem lw_p7 : lw_okq (⟨"ClassProbe$Script", "addKind", "(I)V"⟩, 1) := ⟨⟨by decide +kernel, by decide +kernel⟩, List.mem_of_getElem? (i := 26) (by decide +kernel), List.mem_of_getElem? (i := 360) (by decide +kernel), List.mem_of_getElem? (i := 361) (by decide +kernel)⟩
theorem lw_p8 : lw_okq (⟨"ClassProbe$Script", "addModifiers", "(I)V"⟩, 1) := ⟨⟨by decide +kernel, by decide +kernel⟩, List.mem_of_getElem? (i := 26) (by decide +kernel), List.mem_of_getElem? (i := 376) (by decide +kernel), List.mem_of_getElem? (i := 377) (by decide +kernel)⟩
theorem lw_p9 : lw_okq (⟨"ClassProbe$Script", "addWord", "(ILjava/lang/String;)V"⟩, 1) := ⟨⟨by decide +kernel, by decide +kernel⟩, List.mem_of_getElem? (i := 26) (by decide +kernel), List.mem_of_getElem? (i := 381) (by decide +kernel), List.mem_of_getElem? (i := 382) (by decide +kernel)⟩
theorem lw_p10 : lw_okq (⟨"ClassProbe$Script", "length", "()I"⟩, 1) := ⟨⟨by decide +kernel, by decide +kernel⟩, List.mem_of_getElem? (i := 26) (by decide +kernel), List.mem_of_getElem? (i := 398) (by decide +kernel), List.mem_of_getElem? (i := 399) (by decide +kernel)⟩
theorem lw_p11 : lw_okq (⟨"ClassProbe$Script", "codeAt", "(I)I"⟩, 1) := ⟨⟨by decide +kernel, by decide +kernel⟩, List.mem_of_getElem? (i := 26) (by decide +kernel), List.mem_of_getElem? (i := 402) (by decide +kernel), List.mem_of_getElem? (i := 403) (by decide +kernel)⟩
theorem lw_p12 : lw_okq (⟨"ClassProbe$Query", "add", "(I)I"⟩, 1) := ⟨⟨by decide +kernel, by decide +kernel⟩, List.mem_of_getElem? (i := 69) (by decide +kernel), List.mem_of_getElem? (i := 500) (by decide +kernel), List.mem_of_getElem? (i := 501) (by decide +kernel)⟩
theorem lw_p13 : lw_okq (⟨"ClassProbe$Query", "length", "()I"⟩, 1) := ⟨⟨by decide +kernel, by decide +kernel⟩, List.mem_of_getElem? (i := 69) (by decide +kernel), List.mem_of_getElem? (i := 510) (by decide +kernel), List.mem_of_getElem? (i := 511) (by decide +kernel)⟩
theorem lw_p14 : lw_okq (⟨"ClassProbe$Query", "lookUp", "()I"⟩, 1) := ⟨⟨by decide +kernel, by decide +kernel⟩, List.mem_of_getElem? (i := 69) (by decide +kernel), List.mem_of_getElem? (i := 518) (by decide +kernel), List.mem_of_getElem? (i := 519) (by decide +kernel)⟩
theorem lw_p15 : lw_okq (⟨"ClassProbe$Query", "countLevels", "()I"⟩, 1) := ⟨⟨by decide +kernel, by decide +kernel⟩, List.mem_of_getElem? (i := 69) (by decide +kernel), List.mem_of_getElem? (i := 522) (by decide +kernel), List.mem_of_getElem? (i := 523) (by decide +kernel)⟩
def lw_privs_1 : List (MethodName × Nat) := [(⟨"ClassProbe", "writeText", "(II)I"⟩, 3), (⟨"ClassProbe$Script", "write", "(II)Z"⟩, 1), (⟨"ClassProbe$Script", "addName", "(I)V"⟩, 1), (⟨"ClassProbe$Script", "addCode", "(IC)V"⟩, 1), (⟨"ClassProbe$Script", "addWithChange", "(Ljava/lang/String;CC)V"⟩, 1), (⟨"ClassProbe$Script", "addOwnName", "(Ljava/lang/String;)V"⟩, 1), (⟨"ClassProbe$Script", "addBrackets", "(I)V"⟩, 1), (⟨"ClassProbe$Script", "addKind", "(I)V"⟩, 1), (⟨"ClassProbe$Script", "addModifiers", "(I)V"⟩, 1), (⟨"ClassProbe$Script", "addWord", "(ILjava/lang/String;)V"⟩, 1), (⟨"ClassProbe$Script", "length", "()I"⟩, 1), (⟨"ClassProbe$Script", "codeAt", "(I)I"⟩, 1), (⟨"ClassProbe$Query", "add", "(I)I"⟩, 1), (⟨"ClassProbe$Query", "length", "()I"⟩, 1), (⟨"ClassProbe$Query", "lookUp", "()I"⟩, 1), (⟨"ClassProbe$Query", "countLevels", "()I"⟩, 1)]
theorem lw_r1 : ∀ q ∈ lw_privs_1, lw_okq q := List.forall_mem_cons.mpr ⟨lw_p0, List.forall_mem_cons.mpr ⟨lw_p1, List.forall_mem_cons.mpr ⟨lw_p2, List.forall_mem_cons.mpr ⟨lw_p3, List.forall_mem_cons.mpr ⟨lw_p4, List.forall_mem_cons.mpr ⟨lw_p5, List.forall_mem_cons.mpr ⟨lw_p6, List.forall_mem_cons.mpr ⟨lw_p7, List.forall_mem_cons.mpr ⟨lw_p8, List.forall_mem_cons.mpr ⟨lw_p9, List.forall_mem_cons.mpr ⟨lw_p10, List.forall_mem_cons.mpr ⟨lw_p11, List.forall_mem_cons.mpr ⟨lw_p12, List.forall_mem_cons.mpr ⟨lw_p13, List.forall_mem_cons.mpr ⟨lw_p14, List.forall_mem_cons.mpr ⟨lw_p15, fun _ h => absurd h List.not_mem_nil⟩⟩⟩⟩⟩⟩⟩⟩⟩⟩⟩⟩⟩⟩⟩⟩
theorem lw_p16 : lw_okq (⟨"ClassProbe$Query", "lookUpElement", "(III)I"⟩, 1) := ⟨⟨by decide +kernel, by decide +kernel⟩, List.mem_of_getElem? (i := 69) (by decide +kernel), List.mem_of_getElem? (i := 527) (by decide +kernel), List.mem_of_getElem? (i := 528) (by decide +kernel)⟩
theorem lw_p17 : lw_okq (⟨"ClassProbe$Query", "standsAt", "(Ljava/lang/String;II)Z"⟩, 1) := ⟨⟨by decide +kernel, by decide +kernel⟩, List.mem_of_getElem? (i := 69) (by decide +kernel), List.mem_of_getElem? (i := 533) (by decide +kernel), List.mem_of_getElem? (i := 534) (by decide +kernel)⟩
theorem lw_p18 : lw_okq (⟨"ClassProbe$Query", "lookUpCode", "(I)I"⟩, 1) := ⟨⟨by decide +kernel, by decide +kernel⟩, List.mem_of_getElem? (i := 69) (by decide +kernel), List.mem_of_getElem? (i := 541) (by decide +kernel), List.mem_of_getElem? (i := 542) (by decide +kernel)⟩
theorem lw_p19 : lw_okq (⟨"ClassProbe$Query", "clear", "()V"⟩, 1) := ⟨⟨by decide +kernel, by decide +kernel⟩, List.mem_of_getElem? (i := 69) (by decide +kernel), List.mem_of_getElem? (i := 592) (by decide +kernel), List.mem_of_getElem? (i := 593) (by decide +kernel)⟩
theorem lw_p20 : lw_okq (⟨"ClassProbeModel", "make", "(II)Z"⟩, 7) := ⟨⟨by decide +kernel, by decide +kernel⟩, List.mem_of_getElem? (i := 630) (by decide +kernel), List.mem_of_getElem? (i := 668) (by decide +kernel), List.mem_of_getElem? (i := 669) (by decide +kernel)⟩
theorem lw_p21 : lw_okq (⟨"ClassProbeModel", "addWhole", "(I)V"⟩, 7) := ⟨⟨by decide +kernel, by decide +kernel⟩, List.mem_of_getElem? (i := 630) (by decide +kernel), List.mem_of_getElem? (i := 675) (by decide +kernel), List.mem_of_getElem? (i := 676) (by decide +kernel)⟩
theorem lw_p22 : lw_okq (⟨"ClassProbeModel", "one", "(I)V"⟩, 7) := ⟨⟨by decide +kernel, by decide +kernel⟩, List.mem_of_getElem? (i := 630) (by decide +kernel), List.mem_of_getElem? (i := 682) (by decide +kernel), List.mem_of_getElem? (i := 683) (by decide +kernel)⟩
theorem lw_p23 : lw_okq (⟨"ClassProbeModel", "addDescriptor", "(IZ)V"⟩, 7) := ⟨⟨by decide +kernel, by decide +kernel⟩, List.mem_of_getElem? (i := 630) (by decide +kernel), List.mem_of_getElem? (i := 686) (by decide +kernel), List.mem_of_getElem? (i := 687) (by decide +kernel)⟩
theorem lw_p24 : lw_okq (⟨"ClassProbeModel", "addName", "(I)V"⟩, 7) := ⟨⟨by decide +kernel, by decide +kernel⟩, List.mem_of_getElem? (i := 630) (by decide +kernel), List.mem_of_getElem? (i := 696) (by decide +kernel), List.mem_of_getElem? (i := 697) (by decide +kernel)⟩
theorem lw_p25 : lw_okq (⟨"ClassProbeModel", "add", "(J)V"⟩, 7) := ⟨⟨by decide +kernel, by decide +kernel⟩, List.mem_of_getElem? (i := 630) (by decide +kernel), List.mem_of_getElem? (i := 701) (by decide +kernel), List.mem_of_getElem? (i := 702) (by decide +kernel)⟩
theorem lw_p26 : lw_okq (⟨"ClassProbeModel", "addOwn", "(I)V"⟩, 7) := ⟨⟨by decide +kernel, by decide +kernel⟩, List.mem_of_getElem? (i := 630) (by decide +kernel), List.mem_of_getElem? (i := 706) (by decide +kernel), List.mem_of_getElem? (i := 707) (by decide +kernel)⟩
theorem lw_p27 : lw_okq (⟨"ClassProbeModel", "addTail", "(I)V"⟩, 7) := ⟨⟨by decide +kernel, by decide +kernel⟩, List.mem_of_getElem? (i := 630) (by decide +kernel), List.mem_of_getElem? (i := 741) (by decide +kernel), List.mem_of_getElem? (i := 742) (by decide +kernel)⟩
theorem lw_p28 : lw_okq (⟨"ClassProbeModel", "addWord", "(ZJJ)V"⟩, 7) := ⟨⟨by decide +kernel, by decide +kernel⟩, List.mem_of_getElem? (i := 630) (by decide +kernel), List.mem_of_getElem? (i := 751) (by decide +kernel), List.mem_of_getElem? (i := 752) (by decide +kernel)⟩
theorem lw_p29 : lw_okq (⟨"ClassProbeModel", "addModifiers", "(I)V"⟩, 7) := ⟨⟨by decide +kernel, by decide +kernel⟩, List.mem_of_getElem? (i := 630) (by decide +kernel), List.mem_of_getElem? (i := 756) (by decide +kernel), List.mem_of_getElem? (i := 757) (by decide +kernel)⟩
theorem lw_p30 : lw_okq (⟨"ClassProbeModel", "modifiers", "(I)I"⟩, 7) := ⟨⟨by decide +kernel, by decide +kernel⟩, List.mem_of_getElem? (i := 630) (by decide +kernel), List.mem_of_getElem? (i := 760) (by decide +kernel), List.mem_of_getElem? (i := 761) (by decide +kernel)⟩
theorem lw_p31 : lw_okq (⟨"ClassProbeModel", "search", "(II)I"⟩, 7) := ⟨⟨by decide +kernel, by decide +kernel⟩, List.mem_of_getElem? (i := 630) (by decide +kernel), List.mem_of_getElem? (i := 831) (by decide +kernel), List.mem_of_getElem? (i := 832) (by decide +kernel)⟩
def lw_privs_2 : List (MethodName × Nat) := [(⟨"ClassProbe$Query", "lookUpElement", "(III)I"⟩, 1), (⟨"ClassProbe$Query", "standsAt", "(Ljava/lang/String;II)Z"⟩, 1), (⟨"ClassProbe$Query", "lookUpCode", "(I)I"⟩, 1), (⟨"ClassProbe$Query", "clear", "()V"⟩, 1), (⟨"ClassProbeModel", "make", "(II)Z"⟩, 7), (⟨"ClassProbeModel", "addWhole", "(I)V"⟩, 7), (⟨"ClassProbeModel", "one", "(I)V"⟩, 7), (⟨"ClassProbeModel", "addDescriptor", "(IZ)V"⟩, 7), (⟨"ClassProbeModel", "addName", "(I)V"⟩, 7), (⟨"ClassProbeModel", "add", "(J)V"⟩, 7), (⟨"ClassProbeModel", "addOwn", "(I)V"⟩, 7), (⟨"ClassProbeModel", "addTail", "(I)V"⟩, 7), (⟨"ClassProbeModel", "addWord", "(ZJJ)V"⟩, 7), (⟨"ClassProbeModel", "addModifiers", "(I)V"⟩, 7), (⟨"ClassProbeModel", "modifiers", "(I)I"⟩, 7), (⟨"ClassProbeModel", "search", "(II)I"⟩, 7)]
theorem lw_r2 : ∀ q ∈ lw_privs_2, lw_okq q := List.forall_mem_cons.mpr ⟨lw_p16, List.forall_mem_cons.mpr ⟨lw_p17, List.forall_mem_cons.mpr ⟨lw_p18, List.forall_mem_cons.mpr ⟨lw_p19, List.forall_mem_cons.mpr ⟨lw_p20, List.forall_mem_cons.mpr ⟨lw_p21, List.forall_mem_cons.mpr ⟨lw_p22, List.forall_mem_cons.mpr ⟨lw_p23, List.forall_mem_cons.mpr ⟨lw_p24, List.forall_mem_cons.mpr ⟨lw_p25, List.forall_mem_cons.mpr ⟨lw_p26, List.forall_mem_cons.mpr ⟨lw_p27, List.forall_mem_cons.mpr ⟨lw_p28, List.forall_mem_cons.mpr ⟨lw_p29, List.forall_mem_cons.mpr ⟨lw_p30, List.forall_mem_cons.mpr ⟨lw_p31, fun _ h => absurd h List.not_mem_nil⟩⟩⟩⟩⟩⟩⟩⟩⟩⟩⟩⟩⟩⟩⟩⟩
theorem lw_p32 : lw_okq (⟨"ClassProbeModel", "named", "(II)I"⟩, 7) := ⟨⟨by decide +kernel, by decide +kernel⟩, List.mem_of_getElem? (i := 630) (by decide +kernel), List.mem_of_getElem? (i := 835) (by decide +kernel), List.mem_of_getElem? (i := 836) (by decide +kernel)⟩
theorem lw_p33 : lw_okq (⟨"ClassProbeModel", "stands", "(IIZ)Z"⟩, 7) := ⟨⟨by decide +kernel, by decide +kernel⟩, List.mem_of_getElem? (i := 630) (by decide +kernel), List.mem_of_getElem? (i := 839) (by decide +kernel), List.mem_of_getElem? (i := 840) (by decide +kernel)⟩
theorem lw_p34 : lw_okq (⟨"ClassProbeModel", "nested", "(II)Z"⟩, 7) := ⟨⟨by decide +kernel, by decide +kernel⟩, List.mem_of_getElem? (i := 630) (by decide +kernel), List.mem_of_getElem? (i := 843) (by decide +kernel), List.mem_of_getElem? (i := 844) (by decide +kernel)⟩
def lw_privs_3 : List (MethodName × Nat) := [(⟨"ClassProbeModel", "named", "(II)I"⟩, 7), (⟨"ClassProbeModel", "stands", "(IIZ)Z"⟩, 7), (⟨"ClassProbeModel", "nested", "(II)Z"⟩, 7)]
theorem lw_r3 : ∀ q ∈ lw_privs_3, lw_okq q := List.forall_mem_cons.mpr ⟨lw_p32, List.forall_mem_cons.mpr ⟨lw_p33, List.forall_mem_cons.mpr ⟨lw_p34, fun _ h => absurd h List.not_mem_nil⟩⟩⟩
def lw_privs : List (MethodName × Nat) := lw_privs_1 ++ (lw_privs_2 ++ (lw_privs_3))
def lw_tbl : List Cond := k2_sels lw_privs ++ tables_1
theorem lw_privs_ok : ∀ q ∈ lw_privs, lw_okq q := by
  show ∀ q ∈ lw_privs_1 ++ (lw_privs_2 ++ (lw_privs_3)), lw_okq q
  exact List.forall_mem_append.mpr ⟨lw_r1, List.forall_mem_append.mpr ⟨lw_r2, lw_r3⟩⟩

def R_P : String := "ClassProbe"
def R_B : String := "ClassProbe$Bench"
def R_Q : String := "ClassProbe$Query"
def R_S : String := "ClassProbe$Script"
def R_M : String := "ClassProbeModel"
def R_L : String := "ClassProbeLaw"
def R_A : String := "java/lang/AbstractStringBuilder"
def R_SB : String := "java/lang/StringBuilder"
def R_St : String := "java/lang/String"
def R_L1 : String := "java/lang/StringLatin1"
def R_U : String := "java/lang/StringUTF16"
def R_Ar : String := "java/util/Arrays"
def R_As : String := "jdk/internal/util/ArraysSupport"
def R_Pr : String := "jdk/internal/util/Preconditions"
def R_Ma : String := "java/lang/Math"
def R_Sy : String := "java/lang/System"
def R_Ch : String := "java/lang/Character"
abbrev b_P_init : ByteArray := prog_1_method_1_code
def y_P_init : MethodName := ⟨R_P, "<init>", "()V"⟩
abbrev b_S_init : ByteArray := prog_4_method_1_code
def y_S_init : MethodName := ⟨R_S, "<init>", "()V"⟩
abbrev b_SB_init : ByteArray := prog_12_method_1_code
def y_SB_init : MethodName := ⟨R_SB, "<init>", "()V"⟩
abbrev b_A_init : ByteArray := prog_7_method_2_code
def y_A_init : MethodName := ⟨R_A, "<init>", "(I)V"⟩
abbrev b_U_newBytesFor : ByteArray := prog_14_method_2_code
def y_U_newBytesFor : MethodName := ⟨R_U, "newBytesFor", "(I)[B"⟩
abbrev b_U_newBytesLength : ByteArray := prog_14_method_3_code
def y_U_newBytesLength : MethodName := ⟨R_U, "newBytesLength", "(I)I"⟩
abbrev b_Q_init : ByteArray := prog_3_method_1_code
def y_Q_init : MethodName := ⟨R_Q, "<init>", "()V"⟩
abbrev b_P_letter : ByteArray := prog_1_method_2_code
def y_P_letter : MethodName := ⟨R_P, "letter", "(III)I"⟩
abbrev b_P_writeText : ByteArray := prog_1_method_22_code
def y_P_writeText : MethodName := ⟨R_P, "writeText", "(II)I"⟩
abbrev b_B_isType : ByteArray := prog_2_method_2_code
def y_B_isType : MethodName := ⟨R_B, "isType", "(I)Z"⟩
abbrev b_B_levels : ByteArray := prog_2_method_3_code
def y_B_levels : MethodName := ⟨R_B, "levels", "(I)I"⟩
abbrev b_B_plain : ByteArray := prog_2_method_4_code
def y_B_plain : MethodName := ⟨R_B, "plain", "(I)I"⟩
abbrev b_S_write : ByteArray := prog_4_method_4_code
def y_S_write : MethodName := ⟨R_S, "write", "(II)Z"⟩
abbrev b_SB_setLength : ByteArray := prog_12_method_89_code
def y_SB_setLength : MethodName := ⟨R_SB, "setLength", "(I)V"⟩
abbrev b_A_setLength : ByteArray := prog_7_method_13_code
def y_A_setLength : MethodName := ⟨R_A, "setLength", "(I)V"⟩
abbrev b_A_ensureCapacityInternal : ByteArray := prog_7_method_9_code
def y_A_ensureCapacityInternal : MethodName := ⟨R_A, "ensureCapacityInternal", "(I)V"⟩
abbrev b_A_newCapacity : ByteArray := prog_7_method_10_code
def y_A_newCapacity : MethodName := ⟨R_A, "newCapacity", "(I)I"⟩
abbrev b_As_newLength : ByteArray := prog_17_method_27_code
def y_As_newLength : MethodName := ⟨R_As, "newLength", "(III)I"⟩
abbrev b_Ma_max : ByteArray := prog_10_method_65_code
def y_Ma_max : MethodName := ⟨R_Ma, "max", "(II)I"⟩
abbrev b_As_hugeLength : ByteArray := prog_17_method_28_code
def y_As_hugeLength : MethodName := ⟨R_As, "hugeLength", "(II)I"⟩
abbrev b_Ar_copyOf : ByteArray := prog_16_method_121_code
def y_Ar_copyOf : MethodName := ⟨R_Ar, "copyOf", "([BI)[B"⟩
abbrev b_Ma_min : ByteArray := prog_10_method_69_code
def y_Ma_min : MethodName := ⟨R_Ma, "min", "(II)I"⟩
abbrev b_A_isLatin1 : ByteArray := prog_7_method_68_code
def y_A_isLatin1 : MethodName := ⟨R_A, "isLatin1", "()Z"⟩
abbrev b_L1_fillNull : ByteArray := prog_13_method_48_code
def y_L1_fillNull : MethodName := ⟨R_L1, "fillNull", "([BII)V"⟩
abbrev b_Ar_fill : ByteArray := prog_16_method_110_code
def y_Ar_fill : MethodName := ⟨R_Ar, "fill", "([BIIB)V"⟩
abbrev b_Ar_rangeCheck : ByteArray := prog_16_method_30_code
def y_Ar_rangeCheck : MethodName := ⟨R_Ar, "rangeCheck", "(III)V"⟩
abbrev b_U_fillNull : ByteArray := prog_14_method_70_code
def y_U_fillNull : MethodName := ⟨R_U, "fillNull", "([BII)V"⟩
abbrev b_S_addName : ByteArray := prog_4_method_5_code
def y_S_addName : MethodName := ⟨R_S, "addName", "(I)V"⟩
abbrev b_B_isArray : ByteArray := prog_2_method_5_code
def y_B_isArray : MethodName := ⟨R_B, "isArray", "(I)Z"⟩
abbrev b_S_addCode : ByteArray := prog_4_method_6_code
def y_S_addCode : MethodName := ⟨R_S, "addCode", "(IC)V"⟩
abbrev b_SB_append_C : ByteArray := prog_12_method_14_code
def y_SB_append_C : MethodName := ⟨R_SB, "append", "(C)Ljava/lang/StringBuilder;"⟩
abbrev b_A_append_C : ByteArray := prog_7_method_31_code
def y_A_append_C : MethodName := ⟨R_A, "append", "(C)Ljava/lang/AbstractStringBuilder;"⟩
abbrev b_L1_canEncode_C : ByteArray := prog_13_method_3_code
def y_L1_canEncode_C : MethodName := ⟨R_L1, "canEncode", "(C)Z"⟩
abbrev b_A_inflate : ByteArray := prog_7_method_11_code
def y_A_inflate : MethodName := ⟨R_A, "inflate", "()V"⟩
abbrev b_L1_inflate : ByteArray := prog_13_method_50_code
def y_L1_inflate : MethodName := ⟨R_L1, "inflate", "([BI[BII)V"⟩
abbrev b_U_inflate : ByteArray := prog_14_method_86_code
def y_U_inflate : MethodName := ⟨R_U, "inflate", "([BI[BII)V"⟩
abbrev b_U_checkBoundsOffCount : ByteArray := prog_14_method_94_code
def y_U_checkBoundsOffCount : MethodName := ⟨R_U, "checkBoundsOffCount", "(II[B)V"⟩
abbrev b_U_length : ByteArray := prog_14_method_6_code
def y_U_length : MethodName := ⟨R_U, "length", "([B)I"⟩
abbrev b_St_checkBoundsOffCount : ByteArray := prog_11_method_157_code
def y_St_checkBoundsOffCount : MethodName := ⟨R_St, "checkBoundsOffCount", "(III)I"⟩
abbrev b_Pr_checkFromIndexSize : ByteArray := prog_18_method_13_code
def y_Pr_checkFromIndexSize : MethodName := ⟨R_Pr, "checkFromIndexSize", "(IIILjava/util/function/BiFunction;)I"⟩
abbrev b_U_putChar : ByteArray := prog_14_method_4_code
def y_U_putChar : MethodName := ⟨R_U, "putChar", "([BII)V"⟩
abbrev b_U_putCharSB : ByteArray := prog_14_method_71_code
def y_U_putCharSB : MethodName := ⟨R_U, "putCharSB", "([BII)V"⟩
abbrev b_U_checkIndex : ByteArray := prog_14_method_91_code
def y_U_checkIndex : MethodName := ⟨R_U, "checkIndex", "(I[B)V"⟩
abbrev b_St_checkIndex : ByteArray := prog_11_method_155_code
def y_St_checkIndex : MethodName := ⟨R_St, "checkIndex", "(II)V"⟩
abbrev b_Pr_checkIndex : ByteArray := prog_18_method_11_code
def y_Pr_checkIndex : MethodName := ⟨R_Pr, "checkIndex", "(IILjava/util/function/BiFunction;)I"⟩
abbrev b_B_isPrimitive : ByteArray := prog_2_method_6_code
def y_B_isPrimitive : MethodName := ⟨R_B, "isPrimitive", "(I)Z"⟩
abbrev b_St_charAt : ByteArray := prog_11_method_56_code
def y_St_charAt : MethodName := ⟨R_St, "charAt", "(I)C"⟩
abbrev b_St_isLatin1 : ByteArray := prog_11_method_154_code
def y_St_isLatin1 : MethodName := ⟨R_St, "isLatin1", "()Z"⟩
abbrev b_L1_charAt : ByteArray := prog_13_method_2_code
def y_L1_charAt : MethodName := ⟨R_L1, "charAt", "([BI)C"⟩
abbrev b_U_charAt : ByteArray := prog_14_method_83_code
def y_U_charAt : MethodName := ⟨R_U, "charAt", "([BI)C"⟩
abbrev b_U_getChar : ByteArray := prog_14_method_5_code
def y_U_getChar : MethodName := ⟨R_U, "getChar", "([BI)C"⟩
abbrev b_B_name : ByteArray := prog_2_method_12_code
def y_B_name : MethodName := ⟨R_B, "name", "(I)Ljava/lang/String;"⟩
abbrev b_S_addWithChange : ByteArray := prog_4_method_7_code
def y_S_addWithChange : MethodName := ⟨R_S, "addWithChange", "(Ljava/lang/String;CC)V"⟩
abbrev b_St_length : ByteArray := prog_11_method_54_code
def y_St_length : MethodName := ⟨R_St, "length", "()I"⟩
abbrev b_St_coder : ByteArray := prog_11_method_152_code
def y_St_coder : MethodName := ⟨R_St, "coder", "()B"⟩
abbrev b_SB_append_S : ByteArray := prog_12_method_7_code
def y_SB_append_S : MethodName := ⟨R_SB, "append", "(Ljava/lang/String;)Ljava/lang/StringBuilder;"⟩
abbrev b_A_append_S : ByteArray := prog_7_method_22_code
def y_A_append_S : MethodName := ⟨R_A, "append", "(Ljava/lang/String;)Ljava/lang/AbstractStringBuilder;"⟩
abbrev b_A_appendNull : ByteArray := prog_7_method_26_code
def y_A_appendNull : MethodName := ⟨R_A, "appendNull", "()Ljava/lang/AbstractStringBuilder;"⟩
abbrev b_U_putCharsAt : ByteArray := prog_14_method_81_code
def y_U_putCharsAt : MethodName := ⟨R_U, "putCharsAt", "([BICCCC)I"⟩
abbrev b_U_checkBoundsBeginEnd : ByteArray := prog_14_method_93_code
def y_U_checkBoundsBeginEnd : MethodName := ⟨R_U, "checkBoundsBeginEnd", "(II[B)V"⟩
abbrev b_St_checkBoundsBeginEnd : ByteArray := prog_11_method_158_code
def y_St_checkBoundsBeginEnd : MethodName := ⟨R_St, "checkBoundsBeginEnd", "(III)V"⟩
abbrev b_Pr_checkFromToIndex : ByteArray := prog_18_method_12_code
def y_Pr_checkFromToIndex : MethodName := ⟨R_Pr, "checkFromToIndex", "(IIILjava/util/function/BiFunction;)I"⟩
abbrev b_A_putStringAt : ByteArray := prog_7_method_73_code
def y_A_putStringAt : MethodName := ⟨R_A, "putStringAt", "(ILjava/lang/String;)V"⟩
abbrev b_A_inflateIfNeededFor : ByteArray := prog_7_method_71_code
def y_A_inflateIfNeededFor : MethodName := ⟨R_A, "inflateIfNeededFor", "(Ljava/lang/String;)V"⟩
abbrev b_St_getBytes : ByteArray := prog_11_method_147_code
def y_St_getBytes : MethodName := ⟨R_St, "getBytes", "([BIB)V"⟩
abbrev b_S_addOwnName : ByteArray := prog_4_method_8_code
def y_S_addOwnName : MethodName := ⟨R_S, "addOwnName", "(Ljava/lang/String;)V"⟩
abbrev b_S_addBrackets : ByteArray := prog_4_method_9_code
def y_S_addBrackets : MethodName := ⟨R_S, "addBrackets", "(I)V"⟩
abbrev b_B_isNameless : ByteArray := prog_2_method_8_code
def y_B_isNameless : MethodName := ⟨R_B, "isNameless", "(I)Z"⟩
abbrev b_B_isInMethod : ByteArray := prog_2_method_9_code
def y_B_isInMethod : MethodName := ⟨R_B, "isInMethod", "(I)Z"⟩
abbrev b_S_addKind : ByteArray := prog_4_method_10_code
def y_S_addKind : MethodName := ⟨R_S, "addKind", "(I)V"⟩
abbrev b_B_isInterface : ByteArray := prog_2_method_7_code
def y_B_isInterface : MethodName := ⟨R_B, "isInterface", "(I)Z"⟩
abbrev b_B_modifiers : ByteArray := prog_2_method_13_code
def y_B_modifiers : MethodName := ⟨R_B, "modifiers", "(I)I"⟩
abbrev b_B_plainModifiers : ByteArray := prog_2_method_14_code
def y_B_plainModifiers : MethodName := ⟨R_B, "plainModifiers", "(I)I"⟩
abbrev b_S_addModifiers : ByteArray := prog_4_method_11_code
def y_S_addModifiers : MethodName := ⟨R_S, "addModifiers", "(I)V"⟩
abbrev b_S_addWord : ByteArray := prog_4_method_12_code
def y_S_addWord : MethodName := ⟨R_S, "addWord", "(ILjava/lang/String;)V"⟩
abbrev b_SB_length : ByteArray := prog_12_method_93_code
def y_SB_length : MethodName := ⟨R_SB, "length", "()I"⟩
abbrev b_A_length : ByteArray := prog_7_method_6_code
def y_A_length : MethodName := ⟨R_A, "length", "()I"⟩
abbrev b_S_length : ByteArray := prog_4_method_2_code
def y_S_length : MethodName := ⟨R_S, "length", "()I"⟩
abbrev b_S_codeAt : ByteArray := prog_4_method_3_code
def y_S_codeAt : MethodName := ⟨R_S, "codeAt", "(I)I"⟩
abbrev b_SB_charAt : ByteArray := prog_12_method_88_code
def y_SB_charAt : MethodName := ⟨R_SB, "charAt", "(I)C"⟩
abbrev b_A_charAt : ByteArray := prog_7_method_14_code
def y_A_charAt : MethodName := ⟨R_A, "charAt", "(I)C"⟩
abbrev b_P_size : ByteArray := prog_1_method_3_code
def y_P_size : MethodName := ⟨R_P, "size", "(II)I"⟩
abbrev b_P_flag : ByteArray := prog_1_method_4_code
def y_P_flag : MethodName := ⟨R_P, "flag", "(II)Z"⟩
abbrev b_B_isMember : ByteArray := prog_2_method_10_code
def y_B_isMember : MethodName := ⟨R_B, "isMember", "(I)Z"⟩
abbrev b_P_number : ByteArray := prog_1_method_5_code
def y_P_number : MethodName := ⟨R_P, "number", "(II)I"⟩
abbrev b_B_interfaceCount : ByteArray := prog_2_method_16_code
def y_B_interfaceCount : MethodName := ⟨R_B, "interfaceCount", "(I)I"⟩
abbrev b_B_permitted : ByteArray := prog_2_method_21_code
def y_B_permitted : MethodName := ⟨R_B, "permitted", "(I)I"⟩
abbrev b_B_memberCount : ByteArray := prog_2_method_22_code
def y_B_memberCount : MethodName := ⟨R_B, "memberCount", "(I)I"⟩
abbrev b_B_nestSize : ByteArray := prog_2_method_23_code
def y_B_nestSize : MethodName := ⟨R_B, "nestSize", "(I)I"⟩
abbrev b_B_isInNest : ByteArray := prog_2_method_11_code
def y_B_isInNest : MethodName := ⟨R_B, "isInNest", "(I)Z"⟩
abbrev b_P_related : ByteArray := prog_1_method_6_code
def y_P_related : MethodName := ⟨R_P, "related", "(II)I"⟩
abbrev b_B_classUp : ByteArray := prog_2_method_15_code
def y_B_classUp : MethodName := ⟨R_B, "classUp", "(I)I"⟩
abbrev b_B_standsIn : ByteArray := prog_2_method_20_code
def y_B_standsIn : MethodName := ⟨R_B, "standsIn", "(I)I"⟩
abbrev b_B_arrayOf : ByteArray := prog_2_method_24_code
def y_B_arrayOf : MethodName := ⟨R_B, "arrayOf", "(II)I"⟩
abbrev b_P_interfaceOf : ByteArray := prog_1_method_7_code
def y_P_interfaceOf : MethodName := ⟨R_P, "interfaceOf", "(II)I"⟩
abbrev b_B_interfaceAt : ByteArray := prog_2_method_17_code
def y_B_interfaceAt : MethodName := ⟨R_B, "interfaceAt", "(II)I"⟩
abbrev b_P_goesInto : ByteArray := prog_1_method_8_code
def y_P_goesInto : MethodName := ⟨R_P, "goesInto", "(II)Z"⟩
abbrev b_B_fits : ByteArray := prog_2_method_18_code
def y_B_fits : MethodName := ⟨R_B, "fits", "(II)Z"⟩
abbrev b_B_reaches : ByteArray := prog_2_method_19_code
def y_B_reaches : MethodName := ⟨R_B, "reaches", "(II)Z"⟩
abbrev b_P_asSubclass : ByteArray := prog_1_method_9_code
def y_P_asSubclass : MethodName := ⟨R_P, "asSubclass", "(II)I"⟩
abbrev b_P_nestmates : ByteArray := prog_1_method_10_code
def y_P_nestmates : MethodName := ⟨R_P, "nestmates", "(II)Z"⟩
abbrev b_P_type : ByteArray := prog_1_method_11_code
def y_P_type : MethodName := ⟨R_P, "type", "(I)I"⟩
abbrev b_Q_add : ByteArray := prog_3_method_4_code
def y_Q_add : MethodName := ⟨R_Q, "add", "(I)I"⟩
abbrev b_P_types : ByteArray := prog_1_method_12_code
def y_P_types : MethodName := ⟨R_P, "types", "(J)I"⟩
abbrev b_Q_length : ByteArray := prog_3_method_2_code
def y_Q_length : MethodName := ⟨R_Q, "length", "()I"⟩
abbrev b_P_find : ByteArray := prog_1_method_13_code
def y_P_find : MethodName := ⟨R_P, "find", "()I"⟩
abbrev b_Q_lookUp : ByteArray := prog_3_method_5_code
def y_Q_lookUp : MethodName := ⟨R_Q, "lookUp", "()I"⟩
abbrev b_Q_countLevels : ByteArray := prog_3_method_6_code
def y_Q_countLevels : MethodName := ⟨R_Q, "countLevels", "()I"⟩
abbrev b_Q_lookUpElement : ByteArray := prog_3_method_7_code
def y_Q_lookUpElement : MethodName := ⟨R_Q, "lookUpElement", "(III)I"⟩
abbrev b_Q_standsAt : ByteArray := prog_3_method_9_code
def y_Q_standsAt : MethodName := ⟨R_Q, "standsAt", "(Ljava/lang/String;II)Z"⟩
abbrev b_Q_lookUpCode : ByteArray := prog_3_method_8_code
def y_Q_lookUpCode : MethodName := ⟨R_Q, "lookUpCode", "(I)I"⟩
abbrev b_St_indexOf_I : ByteArray := prog_11_method_79_code
def y_St_indexOf_I : MethodName := ⟨R_St, "indexOf", "(I)I"⟩
abbrev b_St_indexOf_II : ByteArray := prog_11_method_80_code
def y_St_indexOf_II : MethodName := ⟨R_St, "indexOf", "(II)I"⟩
abbrev b_L1_indexOf : ByteArray := prog_13_method_22_code
def y_L1_indexOf : MethodName := ⟨R_L1, "indexOf", "([BIII)I"⟩
abbrev b_L1_canEncode_I : ByteArray := prog_13_method_4_code
def y_L1_canEncode_I : MethodName := ⟨R_L1, "canEncode", "(I)Z"⟩
abbrev b_L1_indexOfChar : ByteArray := prog_13_method_23_code
def y_L1_indexOfChar : MethodName := ⟨R_L1, "indexOfChar", "([BIII)I"⟩
abbrev b_U_indexOf : ByteArray := prog_14_method_40_code
def y_U_indexOf : MethodName := ⟨R_U, "indexOf", "([BIII)I"⟩
abbrev b_U_indexOfChar : ByteArray := prog_14_method_47_code
def y_U_indexOfChar : MethodName := ⟨R_U, "indexOfChar", "([BIII)I"⟩
abbrev b_U_indexOfCharUnsafe : ByteArray := prog_14_method_48_code
def y_U_indexOfCharUnsafe : MethodName := ⟨R_U, "indexOfCharUnsafe", "([BIII)I"⟩
abbrev b_U_indexOfSupplementary : ByteArray := prog_14_method_49_code
def y_U_indexOfSupplementary : MethodName := ⟨R_U, "indexOfSupplementary", "([BIII)I"⟩
abbrev b_Ch_isValidCodePoint : ByteArray := prog_8_method_11_code
def y_Ch_isValidCodePoint : MethodName := ⟨R_Ch, "isValidCodePoint", "(I)Z"⟩
abbrev b_Ch_highSurrogate : ByteArray := prog_8_method_28_code
def y_Ch_highSurrogate : MethodName := ⟨R_Ch, "highSurrogate", "(I)C"⟩
abbrev b_Ch_lowSurrogate : ByteArray := prog_8_method_29_code
def y_Ch_lowSurrogate : MethodName := ⟨R_Ch, "lowSurrogate", "(I)C"⟩
abbrev b_Q_clear : ByteArray := prog_3_method_3_code
def y_Q_clear : MethodName := ⟨R_Q, "clear", "()V"⟩
abbrev b_P_put : ByteArray := prog_1_method_14_code
def y_P_put : MethodName := ⟨R_P, "put", "(II)I"⟩
abbrev b_P_isSlot : ByteArray := prog_1_method_20_code
def y_P_isSlot : MethodName := ⟨R_P, "isSlot", "(I)Z"⟩
abbrev b_B_hasThings : ByteArray := prog_2_method_25_code
def y_B_hasThings : MethodName := ⟨R_B, "hasThings", "(I)Z"⟩
abbrev b_P_typeOf : ByteArray := prog_1_method_15_code
def y_P_typeOf : MethodName := ⟨R_P, "typeOf", "(I)I"⟩
abbrev b_P_isOf : ByteArray := prog_1_method_16_code
def y_P_isOf : MethodName := ⟨R_P, "isOf", "(II)Z"⟩
abbrev b_P_cast : ByteArray := prog_1_method_17_code
def y_P_cast : MethodName := ⟨R_P, "cast", "(II)I"⟩
abbrev b_P_light : ByteArray := prog_1_method_18_code
def y_P_light : MethodName := ⟨R_P, "light", "(I)I"⟩
abbrev b_P_alike : ByteArray := prog_1_method_19_code
def y_P_alike : MethodName := ⟨R_P, "alike", "(II)Z"⟩
abbrev b_P_isAlwaysAlike : ByteArray := prog_1_method_21_code
def y_P_isAlwaysAlike : MethodName := ⟨R_P, "isAlwaysAlike", "(I)Z"⟩
abbrev b_M_init : ByteArray := prog_6_method_1_code
def y_M_init : MethodName := ⟨R_M, "<init>", "()V"⟩
abbrev b_M_letter : ByteArray := prog_6_method_22_code
def y_M_letter : MethodName := ⟨R_M, "letter", "(III)I"⟩
abbrev b_M_isType : ByteArray := prog_6_method_3_code
def y_M_isType : MethodName := ⟨R_M, "isType", "(I)Z"⟩
abbrev b_M_in : ByteArray := prog_6_method_2_code
def y_M_in : MethodName := ⟨R_M, "in", "(III)Z"⟩
abbrev b_M_make : ByteArray := prog_6_method_21_code
def y_M_make : MethodName := ⟨R_M, "make", "(II)Z"⟩
abbrev b_M_plain : ByteArray := prog_6_method_8_code
def y_M_plain : MethodName := ⟨R_M, "plain", "(I)I"⟩
abbrev b_M_addWhole : ByteArray := prog_6_method_20_code
def y_M_addWhole : MethodName := ⟨R_M, "addWhole", "(I)V"⟩
abbrev b_M_levels : ByteArray := prog_6_method_9_code
def y_M_levels : MethodName := ⟨R_M, "levels", "(I)I"⟩
abbrev b_M_one : ByteArray := prog_6_method_11_code
def y_M_one : MethodName := ⟨R_M, "one", "(I)V"⟩
abbrev b_M_addDescriptor : ByteArray := prog_6_method_16_code
def y_M_addDescriptor : MethodName := ⟨R_M, "addDescriptor", "(IZ)V"⟩
abbrev b_M_primitive : ByteArray := prog_6_method_4_code
def y_M_primitive : MethodName := ⟨R_M, "primitive", "(I)Z"⟩
abbrev b_M_sign : ByteArray := prog_6_method_15_code
def y_M_sign : MethodName := ⟨R_M, "sign", "(I)I"⟩
abbrev b_M_addName : ByteArray := prog_6_method_14_code
def y_M_addName : MethodName := ⟨R_M, "addName", "(I)V"⟩
abbrev b_M_add : ByteArray := prog_6_method_12_code
def y_M_add : MethodName := ⟨R_M, "add", "(J)V"⟩
abbrev b_M_addOwn : ByteArray := prog_6_method_13_code
def y_M_addOwn : MethodName := ⟨R_M, "addOwn", "(I)V"⟩
abbrev b_M_own : ByteArray := prog_6_method_10_code
def y_M_own : MethodName := ⟨R_M, "own", "(I)J"⟩
abbrev b_M_nameless : ByteArray := prog_6_method_6_code
def y_M_nameless : MethodName := ⟨R_M, "nameless", "(I)Z"⟩
abbrev b_M_addTail : ByteArray := prog_6_method_17_code
def y_M_addTail : MethodName := ⟨R_M, "addTail", "(I)V"⟩
abbrev b_M_isInterface : ByteArray := prog_6_method_5_code
def y_M_isInterface : MethodName := ⟨R_M, "isInterface", "(I)Z"⟩
abbrev b_M_addWord : ByteArray := prog_6_method_18_code
def y_M_addWord : MethodName := ⟨R_M, "addWord", "(ZJJ)V"⟩
abbrev b_M_addModifiers : ByteArray := prog_6_method_19_code
def y_M_addModifiers : MethodName := ⟨R_M, "addModifiers", "(I)V"⟩
abbrev b_M_modifiers : ByteArray := prog_6_method_25_code
def y_M_modifiers : MethodName := ⟨R_M, "modifiers", "(I)I"⟩
abbrev b_M_plainModifiers : ByteArray := prog_6_method_26_code
def y_M_plainModifiers : MethodName := ⟨R_M, "plainModifiers", "(I)I"⟩
abbrev b_M_size : ByteArray := prog_6_method_23_code
def y_M_size : MethodName := ⟨R_M, "size", "(II)I"⟩
abbrev b_M_flag : ByteArray := prog_6_method_24_code
def y_M_flag : MethodName := ⟨R_M, "flag", "(II)Z"⟩
abbrev b_M_member : ByteArray := prog_6_method_7_code
def y_M_member : MethodName := ⟨R_M, "member", "(I)Z"⟩
abbrev b_M_number : ByteArray := prog_6_method_27_code
def y_M_number : MethodName := ⟨R_M, "number", "(II)I"⟩
abbrev b_M_related : ByteArray := prog_6_method_30_code
def y_M_related : MethodName := ⟨R_M, "related", "(II)I"⟩
abbrev b_M_up : ByteArray := prog_6_method_28_code
def y_M_up : MethodName := ⟨R_M, "up", "(I)I"⟩
abbrev b_M_standsIn : ByteArray := prog_6_method_29_code
def y_M_standsIn : MethodName := ⟨R_M, "standsIn", "(I)I"⟩
abbrev b_M_interfaceOf : ByteArray := prog_6_method_31_code
def y_M_interfaceOf : MethodName := ⟨R_M, "interfaceOf", "(II)I"⟩
abbrev b_M_goesInto : ByteArray := prog_6_method_33_code
def y_M_goesInto : MethodName := ⟨R_M, "goesInto", "(II)Z"⟩
abbrev b_M_into : ByteArray := prog_6_method_32_code
def y_M_into : MethodName := ⟨R_M, "into", "(II)Z"⟩
abbrev b_M_asSubclass : ByteArray := prog_6_method_34_code
def y_M_asSubclass : MethodName := ⟨R_M, "asSubclass", "(II)I"⟩
abbrev b_M_nestmates : ByteArray := prog_6_method_35_code
def y_M_nestmates : MethodName := ⟨R_M, "nestmates", "(II)Z"⟩
abbrev b_M_type : ByteArray := prog_6_method_36_code
def y_M_type : MethodName := ⟨R_M, "type", "(I)I"⟩
abbrev b_M_types : ByteArray := prog_6_method_37_code
def y_M_types : MethodName := ⟨R_M, "types", "(J)I"⟩
abbrev b_M_find : ByteArray := prog_6_method_42_code
def y_M_find : MethodName := ⟨R_M, "find", "()I"⟩
abbrev b_M_search : ByteArray := prog_6_method_41_code
def y_M_search : MethodName := ⟨R_M, "search", "(II)I"⟩
abbrev b_M_named : ByteArray := prog_6_method_39_code
def y_M_named : MethodName := ⟨R_M, "named", "(II)I"⟩
abbrev b_M_stands : ByteArray := prog_6_method_38_code
def y_M_stands : MethodName := ⟨R_M, "stands", "(IIZ)Z"⟩
abbrev b_M_nested : ByteArray := prog_6_method_40_code
def y_M_nested : MethodName := ⟨R_M, "nested", "(II)Z"⟩
abbrev b_M_put : ByteArray := prog_6_method_43_code
def y_M_put : MethodName := ⟨R_M, "put", "(II)I"⟩
abbrev b_M_typeOf : ByteArray := prog_6_method_44_code
def y_M_typeOf : MethodName := ⟨R_M, "typeOf", "(I)I"⟩
abbrev b_M_isOf : ByteArray := prog_6_method_45_code
def y_M_isOf : MethodName := ⟨R_M, "isOf", "(II)Z"⟩
abbrev b_M_cast : ByteArray := prog_6_method_46_code
def y_M_cast : MethodName := ⟨R_M, "cast", "(II)I"⟩
abbrev b_M_light : ByteArray := prog_6_method_47_code
def y_M_light : MethodName := ⟨R_M, "light", "(I)I"⟩
abbrev b_M_alike : ByteArray := prog_6_method_48_code
def y_M_alike : MethodName := ⟨R_M, "alike", "(II)Z"⟩
abbrev b_L_law : ByteArray := code
def y_L_law : MethodName := ⟨R_L, "law", "([I)Z"⟩
end
section
/-! the words that last: every method's contract takes them all -/
def tk : List Cond := lw_tbl.filter (fun w => k2_isCode w || goodWord w)
theorem tk_good : GoodIn tk tk := by
  intro w hw
  refine ⟨hw, ?_⟩
  have h1 := (List.mem_filter.mp hw).2
  simp only [Bool.or_eq_true] at h1
  rcases h1 with hc | hg
  · cases w <;> first | (simp [k2_isCode] at hc; done) | exact Or.inl rfl
  · exact good_of_word hg
theorem tk_of {w : Cond} (h : w ∈ lw_tbl) (hg : (k2_isCode w || goodWord w) = true) : w ∈ tk := List.mem_filter.mpr ⟨h, hg⟩
abbrev wk (y : MethodName) (b : ByteArray) (n : Nat) (ret : Option FieldType) : List Cond := Cond.code y b n ret :: tk
theorem tk_in {y : MethodName} {b : ByteArray} {n : Nat} {ret : Option FieldType} (h : Cond.code y b n ret ∈ tk) : GoodIn tk (wk y b n ret) := by
  intro w hw
  rcases List.mem_cons.mp hw with rfl | hw
  · exact tk_good _ h
  · exact tk_good _ hw
/-! links between nest mates: they are carried by each contract's start -/
def nw_is : Cond → Bool
  | .methodLinkNest .. => true
  | .fieldLinkNest .. => true
  | _ => false
def nw_l : List Cond := lw_tbl.filter nw_is
def Nst (U : State) : Prop := ∀ w ∈ nw_l, va_Nw w U
theorem nw_on {w : Cond} (h : w ∈ nw_l) : w.onTables = true := by
  have h1 := (List.mem_filter.mp h).2
  cases w <;> first | rfl | (simp [nw_is] at h1; done)
theorem Nst.warm {s U : State} (hW : s.WarmedH U.vm) (h : Nst s) : Nst U := by
  intro w hw
  have h1 := (List.mem_filter.mp hw).2
  have h2 := h w hw
  cases w <;> first | exact va_Nw.warmM hW h2 | exact va_Nw.warmF hW h2 | (simp [nw_is] at h1; done)
theorem Nst.same {u U : State} (hv : u.vm = U.vm) (h : Nst u) : Nst U := fun w hw => va_Nw.same (nw_on hw) hv (h w hw)
theorem nw_of {w : Cond} (h : w ∈ lw_tbl) (hg : nw_is w = true) : w ∈ nw_l := List.mem_filter.mpr ⟨h, hg⟩
theorem Nst.call {U : State} {g : JFrame} {mk : MethodId} {a : Array Value} (h : Nst U) : Nst (U.calling g mk a) := Nst.same (u := U) rfl h
/-- what the tables say of a method that is called -/
def ck (y : MethodName) (b : ByteArray) (n : Nat) (ret : Option FieldType) (k : Nat) (kind : Cond) : Prop :=
  Cond.code y b n ret ∈ tk ∧ kind ∈ tk ∧ Cond.initialized y.cls ∈ tk ∧ (y.cls ≠ "java/lang/invoke/MethodHandle" ∧ y.cls ≠ "java/lang/invoke/VarHandle" ∧ (parseMethodDescriptor y.desc).map (fun d => d.parameters.length) = some k)
/-- a method that reads and writes no cell, and answers an int -/
def pmI (l : Launch) (y : MethodName) (b : ByteArray) (n : Nat) (rt : FieldType) (fr lo : Nat) (As : List Value) (post : Int32 → Prop) : Prop :=
  Met l y (wk y b n (some rt)) ({ frames := fr, cells := 0, slots := 0, locals := lo }) (va_Pc As Nst) (vp_Si post) 0 0 (fun _ => False)
/-- .. a long -/
def pmL (l : Launch) (y : MethodName) (b : ByteArray) (n : Nat) (fr lo : Nat) (As : List Value) (post : Int64 → Prop) : Prop :=
  Met l y (wk y b n (some .long)) ({ frames := fr, cells := 0, slots := 0, locals := lo }) (va_Pc As Nst) (vp_Sl post) 0 0 (fun _ => False)
theorem nst_blind {As : List Value} : FrameBlind (va_Pc As Nst) := fun _ _ _ _ q => ⟨q.1, q.2.call⟩
section BS
variable {p : Program} {l : Launch} {e : Env} {R : Room} {s : State} {m : MethodId} {args : Array Value} {below : List Frame} {meth : Method} {c : Code} {H : Heap} {locs : List Loc} {cells slots : Nat} {Q : State → Prop}
variable {cc b : ByteArray} {pc nL n fr lo index : Nat} {ls : Array Slot} {rest st0 As : List Value} {y : MethodName} {rt : FieldType} {post : Int32 → Prop} {postL : Int64 → Prop} {own host C : String}
theorem run_of {mc ms : Nat} {g : JFrame} {Qa : State → Outcome → State → Prop} {free : Addr → Prop} (h : va_Run p l e R s m args below meth c H locs cells slots mc ms g rest Qa free) : CallRun p l e R s m args below meth c H locs cells slots mc ms g rest Qa free := fun T hT X => by
  obtain ⟨v, st₀, t, T', L, h0, h1, h2, h3, _, h5, h6⟩ := h T hT X
  exact ⟨v, st₀, t, T', L, h0, h1, h2, h3, h5, h6⟩
theorem pm_call (hF : CallFix p m c cc nL s args tk own) (hN : Nst s) (hM : pmI l y b n rt fr lo As post) (k : ck y b n (some rt) As.length (.static y)) (hl : Cond.methodLink own index y ∈ tk)
    (hR : fr + 1 ≤ R.frames ∧ 8 + (n + 11) + lo ≤ R.locals) (hst : st0 = As.reverse ++ rest) (hsz : ls.size = nL) (hW : (rest.map fun v => v.category).sum ≤ 8) (hdg : decode cc pc = .ok (.invokestatic index, 3)) (hf : cells ≤ R.cells ∧ slots ≤ R.slots)
    (kk : ∀ r : Int32, post r → W p l e R s m args below meth c H locs cells slots Q (F0 m (pc + 3) ls (.int r :: rest))) : W p l e R s m args below meth c H locs cells slots Q (F0 m pc ls st0) :=
  vp_callSi (W.runS hF hM ⟨callB_of As.length hF.2.2.2.2 (tk_in k.1) rfl rfl rfl (hF.2.2.2.2 _ k.2.2.1) (hF.2.2.2.2 _ hl) k.2.2.2 hR, hF.2.2.2.2 _ k.2.1⟩ ⟨nst_blind, fun _ _ hW => ⟨rfl, hN.warm hW⟩⟩ rfl rfl hsz hst (lv_room hW) hdg hf) kk
theorem pm_callN (hF : CallFix p m c cc nL s args tk own) (hN : Nst s) (hM : pmI l y b n rt fr lo As post) (k : ck y b n (some rt) As.length (.static y)) (hl : Cond.methodLinkNest own index y host ∈ nw_l)
    (hR : fr + 1 ≤ R.frames ∧ 8 + (n + 11) + lo ≤ R.locals) (hst : st0 = As.reverse ++ rest) (hsz : ls.size = nL) (hW : (rest.map fun v => v.category).sum ≤ 8) (hdg : decode cc pc = .ok (.invokestatic index, 3)) (hf : cells ≤ R.cells ∧ slots ≤ R.slots)
    (kk : ∀ r : Int32, post r → W p l e R s m args below meth c H locs cells slots Q (F0 m (pc + 3) ls (.int r :: rest))) : W p l e R s m args below meth c H locs cells slots Q (F0 m pc ls st0) :=
  vp_callSi (run_of (va_runSN hF hM ⟨va_cnB As.length hF.2.2.2.2 (tk_in k.1) rfl rfl rfl (hN _ hl) (hF.2.2.2.2 _ k.2.2.1) k.2.2.2 hR, hF.2.2.2.2 _ k.2.1, trivial⟩ ⟨nst_blind, fun _ _ hW => ⟨rfl, hN.warm hW⟩⟩ rfl rfl hsz hst (lv_room hW) hdg hf)) kk
theorem pm_callV {a : Nat} (hF : CallFix p m c cc nL s args tk own) (hN : Nst s) (hM : pmI l y b n rt fr lo (.ref a :: As) post) (k : ck y b n (some rt) As.length (.instanceMethod y)) (hl : Cond.methodLink own index y ∈ tk) (hse : Cond.selects y.cls y y ∈ tk)
    (hc : ∃ cell : Cell, H[a]? = some cell ∧ cell.vm.isStatics = false ∧ s.vm.findClass y.cls = some cell.cls)
    (hR : fr + 1 ≤ R.frames ∧ 8 + (n + 11) + lo ≤ R.locals) (hst : st0 = As.reverse ++ .ref a :: rest) (hsz : ls.size = nL) (hW : (rest.map fun v => v.category).sum ≤ 8) (hdg : decode cc pc = .ok (.invokevirtual index, 3)) (hf : cells ≤ R.cells ∧ slots ≤ R.slots)
    (kk : ∀ r : Int32, post r → W p l e R s m args below meth c H locs cells slots Q (F0 m (pc + 3) ls (.int r :: rest))) : W p l e R s m args below meth c H locs cells slots Q (F0 m pc ls st0) :=
  vp_callSi (W.runV hF hM ⟨callB_of As.length hF.2.2.2.2 (tk_in k.1) rfl rfl rfl (hF.2.2.2.2 _ k.2.2.1) (hF.2.2.2.2 _ hl) k.2.2.2 hR, hF.2.2.2.2 _ k.2.1, hF.2.2.2.2 _ hse⟩ ⟨nst_blind, hc, fun _ _ hW => ⟨rfl, hN.warm hW⟩⟩ rfl rfl hsz hst (lv_room hW) hdg hf) kk
theorem pm_callE {v : Int32} (hF : CallFix p m c cc nL s args tk own) (hN : Nst s) (hM : pmI l y b n rt fr lo As (fun r => r = v)) (k : ck y b n (some rt) As.length (.static y)) (hl : Cond.methodLink own index y ∈ tk)
    (hR : fr + 1 ≤ R.frames ∧ 8 + (n + 11) + lo ≤ R.locals) (hst : st0 = As.reverse ++ rest) (hsz : ls.size = nL) (hW : (rest.map fun v => v.category).sum ≤ 8) (hdg : decode cc pc = .ok (.invokestatic index, 3)) (hf : cells ≤ R.cells ∧ slots ≤ R.slots)
    (kk : W p l e R s m args below meth c H locs cells slots Q (F0 m (pc + 3) ls (.int v :: rest))) : W p l e R s m args below meth c H locs cells slots Q (F0 m pc ls st0) :=
  pm_call hF hN hM k hl hR hst hsz hW hdg hf (fun r er => by rw [er]; exact kk)
theorem pm_callNE {v : Int32} (hF : CallFix p m c cc nL s args tk own) (hN : Nst s) (hM : pmI l y b n rt fr lo As (fun r => r = v)) (k : ck y b n (some rt) As.length (.static y)) (hl : Cond.methodLinkNest own index y host ∈ nw_l)
    (hR : fr + 1 ≤ R.frames ∧ 8 + (n + 11) + lo ≤ R.locals) (hst : st0 = As.reverse ++ rest) (hsz : ls.size = nL) (hW : (rest.map fun v => v.category).sum ≤ 8) (hdg : decode cc pc = .ok (.invokestatic index, 3)) (hf : cells ≤ R.cells ∧ slots ≤ R.slots)
    (kk : W p l e R s m args below meth c H locs cells slots Q (F0 m (pc + 3) ls (.int v :: rest))) : W p l e R s m args below meth c H locs cells slots Q (F0 m pc ls st0) :=
  pm_callN hF hN hM k hl hR hst hsz hW hdg hf (fun r er => by rw [er]; exact kk)
theorem pm_callVE {v : Int32} {a : Nat} (hF : CallFix p m c cc nL s args tk own) (hN : Nst s) (hM : pmI l y b n rt fr lo (.ref a :: As) (fun r => r = v)) (k : ck y b n (some rt) As.length (.instanceMethod y)) (hl : Cond.methodLink own index y ∈ tk) (hse : Cond.selects y.cls y y ∈ tk)
    (hc : ∃ cell : Cell, H[a]? = some cell ∧ cell.vm.isStatics = false ∧ s.vm.findClass y.cls = some cell.cls)
    (hR : fr + 1 ≤ R.frames ∧ 8 + (n + 11) + lo ≤ R.locals) (hst : st0 = As.reverse ++ .ref a :: rest) (hsz : ls.size = nL) (hW : (rest.map fun v => v.category).sum ≤ 8) (hdg : decode cc pc = .ok (.invokevirtual index, 3)) (hf : cells ≤ R.cells ∧ slots ≤ R.slots)
    (kk : W p l e R s m args below meth c H locs cells slots Q (F0 m (pc + 3) ls (.int v :: rest))) : W p l e R s m args below meth c H locs cells slots Q (F0 m pc ls st0) :=
  pm_callV hF hN hM k hl hse hc hR hst hsz hW hdg hf (fun r er => by rw [er]; exact kk)
theorem pm_of (hy : plainName y.cls = true) (hlen : (lg_sl As).length ≤ n)
    (body : ∀ (p : Program) (e : Env) (s : State) (m : MethodId) (below : List Frame) (meth : Method) (c : Code) (ls : Array Slot), p.tables.exec = Jvm.exec → c.code = b → CallFix p m c b n s As.toArray tk y.cls → meth.sig.returnType = some rt → meth.locks = false → Nst s → lv_has ls n (lv_args 0 As) →
      W p l e ({ frames := fr, cells := 0, slots := 0, locals := lo }) s m As.toArray below meth c s.heap [] 0 0 (MQ below (vp_Si post) As.toArray s 0 0 (fun _ => False)) (F0 m 0 ls [])) : pmI l y b n rt fr lo As post := by
  refine Met.ofW (cc := b) (maxL := n) (ret := some rt) hy rfl ?_
  intro p e s m args below meth c s₁ B hml hv
  obtain ⟨rfl, hN⟩ := hv
  have hts := atoms_spec (ws := wk y b n (some rt)) B.pre
  have hl := lv_entry As (n := n) hlen
  rw [lg_entry_eq]
  exact body p e s m below meth c _ B.exec B.bytes ⟨B.exec, B.bytes, hml, findClass_of_methodNamed B.named, fun w hw => hts w (List.mem_cons_of_mem _ hw)⟩ B.returns B.notSynchronized hN hl
theorem pl_of (hy : plainName y.cls = true) (hlen : (lg_sl As).length ≤ n)
    (body : ∀ (p : Program) (e : Env) (s : State) (m : MethodId) (below : List Frame) (meth : Method) (c : Code) (ls : Array Slot), p.tables.exec = Jvm.exec → c.code = b → CallFix p m c b n s As.toArray tk y.cls → meth.sig.returnType = some .long → meth.locks = false → Nst s → lv_has ls n (lv_args 0 As) →
      W p l e ({ frames := fr, cells := 0, slots := 0, locals := lo }) s m As.toArray below meth c s.heap [] 0 0 (MQ below (vp_Sl postL) As.toArray s 0 0 (fun _ => False)) (F0 m 0 ls [])) : pmL l y b n fr lo As postL := by
  refine Met.ofW (cc := b) (maxL := n) (ret := some .long) hy rfl ?_
  intro p e s m args below meth c s₁ B hml hv
  obtain ⟨rfl, hN⟩ := hv
  have hts := atoms_spec (ws := wk y b n (some .long)) B.pre
  have hl := lv_entry As (n := n) hlen
  rw [lg_entry_eq]
  exact body p e s m below meth c _ B.exec B.bytes ⟨B.exec, B.bytes, hml, findClass_of_methodNamed B.named, fun w hw => hts w (List.mem_cons_of_mem _ hw)⟩ B.returns B.notSynchronized hN hl
theorem pm_ret {v : Int32} (hx : p.tables.exec = Jvm.exec) (hb : c.code = b) (hr : meth.sig.returnType = some rt) (hlk : meth.locks = false) (hn : narrow rt (.int v) = .int v) (hp : post v) (hdg : decode b pc = .ok (.ireturn, 1)) :
    W p l e R s m args below meth c s.heap [] 0 0 (MQ below (vp_Si post) args s 0 0 (fun _ => False)) (F0 m pc ls [.int v]) :=
  W.zret hx hb hr hn (fun _ ht _ => ⟨v, rfl, hp, ht⟩) (fun _ h => absurd h List.not_mem_nil) hdg hlk
theorem pl_ret {v : Int64} (hx : p.tables.exec = Jvm.exec) (hb : c.code = b) (hr : meth.sig.returnType = some .long) (hlk : meth.locks = false) (hp : postL v) (hdg : decode b pc = .ok (.lreturn, 1)) :
    W p l e R s m args below meth c s.heap [] 0 0 (MQ below (vp_Sl postL) args s 0 0 (fun _ => False)) (F0 m pc ls [.long v]) :=
  W.lret hx hb hr (fun _ ht _ => ⟨v, rfl, hp, ht⟩) (fun _ h => absurd h List.not_mem_nil) hdg hlk
end BS
theorem nar_z {v : Int32} (h : v = 0 ∨ v = 1) : narrow .boolean (.int v) = .int v := by
  rcases h with rfl | rfl <;> decide
theorem nar_i (v : Int32) : narrow .int (.int v) = .int v := vp_nar_int v
theorem z_ite {c : Prop} [Decidable c] {a b : Int32} (ha : a = 0 ∨ a = 1) (hb : b = 0 ∨ b = 1) : (if c then a else b) = 0 ∨ (if c then a else b) = 1 := by
  by_cases h : c
  · rw [if_pos h]; exact ha
  · rw [if_neg h]; exact hb
end
section
theorem d_B_isType_0 : decode b_B_isType 0 = .ok (.iload_n 0, 1) := by decide +kernel
theorem d_B_isType_1 : decode b_B_isType 1 = .ok (.ifCond .lt 20, 3) := by decide +kernel
theorem d_B_isType_4 : decode b_B_isType 4 = .ok (.iload_n 0, 1) := by decide +kernel
theorem d_B_isType_5 : decode b_B_isType 5 = .ok (.invokestatic 9, 3) := by decide +kernel
theorem d_B_isType_8 : decode b_B_isType 8 = .ok (.iconst 2, 1) := by decide +kernel
theorem d_B_isType_9 : decode b_B_isType 9 = .ok (.if_icmp .gt 12, 3) := by decide +kernel
theorem d_B_isType_12 : decode b_B_isType 12 = .ok (.iload_n 0, 1) := by decide +kernel
theorem d_B_isType_13 : decode b_B_isType 13 = .ok (.invokestatic 15, 3) := by decide +kernel
theorem d_B_isType_16 : decode b_B_isType 16 = .ok (.bipush 25, 2) := by decide +kernel
theorem d_B_isType_18 : decode b_B_isType 18 = .ok (.if_icmp .lt 5, 3) := by decide +kernel
theorem d_B_isType_21 : decode b_B_isType 21 = .ok (.iconst 0, 1) := by decide +kernel
theorem d_B_isType_22 : decode b_B_isType 22 = .ok (.ireturn, 1) := by decide +kernel
theorem d_B_isType_23 : decode b_B_isType 23 = .ok (.iload_n 0, 1) := by decide +kernel
theorem d_B_isType_24 : decode b_B_isType 24 = .ok (.bipush 8, 2) := by decide +kernel
theorem d_B_isType_26 : decode b_B_isType 26 = .ok (.if_icmp .eq 12, 3) := by decide +kernel
theorem d_B_isType_29 : decode b_B_isType 29 = .ok (.iload_n 0, 1) := by decide +kernel
theorem d_B_isType_30 : decode b_B_isType 30 = .ok (.invokestatic 15, 3) := by decide +kernel
theorem d_B_isType_33 : decode b_B_isType 33 = .ok (.bipush 8, 2) := by decide +kernel
theorem d_B_isType_35 : decode b_B_isType 35 = .ok (.if_icmp .eq 7, 3) := by decide +kernel
theorem d_B_isType_38 : decode b_B_isType 38 = .ok (.iconst 1, 1) := by decide +kernel
theorem d_B_isType_39 : decode b_B_isType 39 = .ok (.goto 4, 3) := by decide +kernel
theorem d_B_isType_42 : decode b_B_isType 42 = .ok (.iconst 0, 1) := by decide +kernel
theorem d_B_isType_43 : decode b_B_isType 43 = .ok (.ireturn, 1) := by decide +kernel
theorem d_B_levels_0 : decode b_B_levels 0 = .ok (.iload_n 0, 1) := by decide +kernel
theorem d_B_levels_1 : decode b_B_levels 1 = .ok (.bipush 40, 2) := by decide +kernel
theorem d_B_levels_3 : decode b_B_levels 3 = .ok (.idiv, 1) := by decide +kernel
theorem d_B_levels_4 : decode b_B_levels 4 = .ok (.ireturn, 1) := by decide +kernel
theorem d_B_plain_0 : decode b_B_plain 0 = .ok (.iload_n 0, 1) := by decide +kernel
theorem d_B_plain_1 : decode b_B_plain 1 = .ok (.bipush 40, 2) := by decide +kernel
theorem d_B_plain_3 : decode b_B_plain 3 = .ok (.irem, 1) := by decide +kernel
theorem d_B_plain_4 : decode b_B_plain 4 = .ok (.ireturn, 1) := by decide +kernel
theorem d_B_isArray_0 : decode b_B_isArray 0 = .ok (.iload_n 0, 1) := by decide +kernel
theorem d_B_isArray_1 : decode b_B_isArray 1 = .ok (.bipush 40, 2) := by decide +kernel
theorem d_B_isArray_3 : decode b_B_isArray 3 = .ok (.if_icmp .lt 7, 3) := by decide +kernel
theorem d_B_isArray_6 : decode b_B_isArray 6 = .ok (.iconst 1, 1) := by decide +kernel
theorem d_B_isArray_7 : decode b_B_isArray 7 = .ok (.goto 4, 3) := by decide +kernel
theorem d_B_isArray_10 : decode b_B_isArray 10 = .ok (.iconst 0, 1) := by decide +kernel
theorem d_B_isArray_11 : decode b_B_isArray 11 = .ok (.ireturn, 1) := by decide +kernel
theorem d_B_isPrimitive_0 : decode b_B_isPrimitive 0 = .ok (.iload_n 0, 1) := by decide +kernel
theorem d_B_isPrimitive_1 : decode b_B_isPrimitive 1 = .ok (.bipush 8, 2) := by decide +kernel
theorem d_B_isPrimitive_3 : decode b_B_isPrimitive 3 = .ok (.if_icmp .gt 7, 3) := by decide +kernel
theorem d_B_isPrimitive_6 : decode b_B_isPrimitive 6 = .ok (.iconst 1, 1) := by decide +kernel
theorem d_B_isPrimitive_7 : decode b_B_isPrimitive 7 = .ok (.goto 4, 3) := by decide +kernel
theorem d_B_isPrimitive_10 : decode b_B_isPrimitive 10 = .ok (.iconst 0, 1) := by decide +kernel
theorem d_B_isPrimitive_11 : decode b_B_isPrimitive 11 = .ok (.ireturn, 1) := by decide +kernel
theorem d_B_name_0 : decode b_B_name 0 = .ok (.iload_n 0, 1) := by decide +kernel
theorem d_B_name_1 : decode b_B_name 1 = .ok (.tableswitch 190 0 24 #[115, 118, 121, 124, 127, 130, 133, 136, 139, 142, 145, 148, 151, 154, 157, 160, 163, 166, 169, 172, 175, 178, 181, 184, 187], 115) := by decide +kernel
theorem d_B_name_116 : decode b_B_name 116 = .ok (.ldc 18, 2) := by decide +kernel
theorem d_B_name_118 : decode b_B_name 118 = .ok (.areturn, 1) := by decide +kernel
theorem d_B_name_119 : decode b_B_name 119 = .ok (.ldc 20, 2) := by decide +kernel
theorem d_B_name_121 : decode b_B_name 121 = .ok (.areturn, 1) := by decide +kernel
theorem d_B_name_122 : decode b_B_name 122 = .ok (.ldc 22, 2) := by decide +kernel
theorem d_B_name_124 : decode b_B_name 124 = .ok (.areturn, 1) := by decide +kernel
theorem d_B_name_125 : decode b_B_name 125 = .ok (.ldc 24, 2) := by decide +kernel
theorem d_B_name_127 : decode b_B_name 127 = .ok (.areturn, 1) := by decide +kernel
theorem d_B_name_128 : decode b_B_name 128 = .ok (.ldc 26, 2) := by decide +kernel
theorem d_B_name_130 : decode b_B_name 130 = .ok (.areturn, 1) := by decide +kernel
theorem d_B_name_131 : decode b_B_name 131 = .ok (.ldc 28, 2) := by decide +kernel
theorem d_B_name_133 : decode b_B_name 133 = .ok (.areturn, 1) := by decide +kernel
theorem d_B_name_134 : decode b_B_name 134 = .ok (.ldc 30, 2) := by decide +kernel
theorem d_B_name_136 : decode b_B_name 136 = .ok (.areturn, 1) := by decide +kernel
theorem d_B_name_137 : decode b_B_name 137 = .ok (.ldc 32, 2) := by decide +kernel
theorem d_B_name_139 : decode b_B_name 139 = .ok (.areturn, 1) := by decide +kernel
theorem d_B_name_140 : decode b_B_name 140 = .ok (.ldc 34, 2) := by decide +kernel
theorem d_B_name_142 : decode b_B_name 142 = .ok (.areturn, 1) := by decide +kernel
theorem d_B_name_143 : decode b_B_name 143 = .ok (.ldc 36, 2) := by decide +kernel
theorem d_B_name_145 : decode b_B_name 145 = .ok (.areturn, 1) := by decide +kernel
theorem d_B_name_146 : decode b_B_name 146 = .ok (.ldc 38, 2) := by decide +kernel
theorem d_B_name_148 : decode b_B_name 148 = .ok (.areturn, 1) := by decide +kernel
theorem d_B_name_149 : decode b_B_name 149 = .ok (.ldc 40, 2) := by decide +kernel
theorem d_B_name_151 : decode b_B_name 151 = .ok (.areturn, 1) := by decide +kernel
theorem d_B_name_152 : decode b_B_name 152 = .ok (.ldc 41, 2) := by decide +kernel
theorem d_B_name_154 : decode b_B_name 154 = .ok (.areturn, 1) := by decide +kernel
theorem d_B_name_155 : decode b_B_name 155 = .ok (.ldc 43, 2) := by decide +kernel
theorem d_B_name_157 : decode b_B_name 157 = .ok (.areturn, 1) := by decide +kernel
theorem d_B_name_158 : decode b_B_name 158 = .ok (.ldc 45, 2) := by decide +kernel
theorem d_B_name_160 : decode b_B_name 160 = .ok (.areturn, 1) := by decide +kernel
theorem d_B_name_161 : decode b_B_name 161 = .ok (.ldc 47, 2) := by decide +kernel
theorem d_B_name_163 : decode b_B_name 163 = .ok (.areturn, 1) := by decide +kernel
theorem d_B_name_164 : decode b_B_name 164 = .ok (.ldc 49, 2) := by decide +kernel
theorem d_B_name_166 : decode b_B_name 166 = .ok (.areturn, 1) := by decide +kernel
theorem d_B_name_167 : decode b_B_name 167 = .ok (.ldc 51, 2) := by decide +kernel
theorem d_B_name_169 : decode b_B_name 169 = .ok (.areturn, 1) := by decide +kernel
theorem d_B_name_170 : decode b_B_name 170 = .ok (.ldc 53, 2) := by decide +kernel
theorem d_B_name_172 : decode b_B_name 172 = .ok (.areturn, 1) := by decide +kernel
theorem d_B_name_173 : decode b_B_name 173 = .ok (.ldc 55, 2) := by decide +kernel
theorem d_B_name_175 : decode b_B_name 175 = .ok (.areturn, 1) := by decide +kernel
theorem d_B_name_176 : decode b_B_name 176 = .ok (.ldc 57, 2) := by decide +kernel
theorem d_B_name_178 : decode b_B_name 178 = .ok (.areturn, 1) := by decide +kernel
theorem d_B_name_179 : decode b_B_name 179 = .ok (.ldc 59, 2) := by decide +kernel
theorem d_B_name_181 : decode b_B_name 181 = .ok (.areturn, 1) := by decide +kernel
theorem d_B_name_182 : decode b_B_name 182 = .ok (.ldc 61, 2) := by decide +kernel
theorem d_B_name_184 : decode b_B_name 184 = .ok (.areturn, 1) := by decide +kernel
theorem d_B_name_185 : decode b_B_name 185 = .ok (.ldc 63, 2) := by decide +kernel
theorem d_B_name_187 : decode b_B_name 187 = .ok (.areturn, 1) := by decide +kernel
theorem d_B_name_188 : decode b_B_name 188 = .ok (.ldc 65, 2) := by decide +kernel
theorem d_B_name_190 : decode b_B_name 190 = .ok (.areturn, 1) := by decide +kernel
theorem d_B_name_191 : decode b_B_name 191 = .ok (.ldc 67, 2) := by decide +kernel
theorem d_B_name_193 : decode b_B_name 193 = .ok (.areturn, 1) := by decide +kernel
theorem d_B_isNameless_0 : decode b_B_isNameless 0 = .ok (.iload_n 0, 1) := by decide +kernel
theorem d_B_isNameless_1 : decode b_B_isNameless 1 = .ok (.bipush 17, 2) := by decide +kernel
theorem d_B_isNameless_3 : decode b_B_isNameless 3 = .ok (.if_icmp .eq 9, 3) := by decide +kernel
theorem d_B_isNameless_6 : decode b_B_isNameless 6 = .ok (.iload_n 0, 1) := by decide +kernel
theorem d_B_isNameless_7 : decode b_B_isNameless 7 = .ok (.bipush 24, 2) := by decide +kernel
theorem d_B_isNameless_9 : decode b_B_isNameless 9 = .ok (.if_icmp .ne 7, 3) := by decide +kernel
theorem d_B_isNameless_12 : decode b_B_isNameless 12 = .ok (.iconst 1, 1) := by decide +kernel
theorem d_B_isNameless_13 : decode b_B_isNameless 13 = .ok (.goto 4, 3) := by decide +kernel
theorem d_B_isNameless_16 : decode b_B_isNameless 16 = .ok (.iconst 0, 1) := by decide +kernel
theorem d_B_isNameless_17 : decode b_B_isNameless 17 = .ok (.ireturn, 1) := by decide +kernel
theorem d_B_isInMethod_0 : decode b_B_isInMethod 0 = .ok (.iload_n 0, 1) := by decide +kernel
theorem d_B_isInMethod_1 : decode b_B_isInMethod 1 = .ok (.bipush 23, 2) := by decide +kernel
theorem d_B_isInMethod_3 : decode b_B_isInMethod 3 = .ok (.if_icmp .eq 9, 3) := by decide +kernel
theorem d_B_isInMethod_6 : decode b_B_isInMethod 6 = .ok (.iload_n 0, 1) := by decide +kernel
theorem d_B_isInMethod_7 : decode b_B_isInMethod 7 = .ok (.bipush 24, 2) := by decide +kernel
theorem d_B_isInMethod_9 : decode b_B_isInMethod 9 = .ok (.if_icmp .ne 7, 3) := by decide +kernel
theorem d_B_isInMethod_12 : decode b_B_isInMethod 12 = .ok (.iconst 1, 1) := by decide +kernel
theorem d_B_isInMethod_13 : decode b_B_isInMethod 13 = .ok (.goto 4, 3) := by decide +kernel
theorem d_B_isInMethod_16 : decode b_B_isInMethod 16 = .ok (.iconst 0, 1) := by decide +kernel
theorem d_B_isInMethod_17 : decode b_B_isInMethod 17 = .ok (.ireturn, 1) := by decide +kernel
theorem d_B_isInterface_0 : decode b_B_isInterface 0 = .ok (.iload_n 0, 1) := by decide +kernel
theorem d_B_isInterface_1 : decode b_B_isInterface 1 = .ok (.bipush 10, 2) := by decide +kernel
theorem d_B_isInterface_3 : decode b_B_isInterface 3 = .ok (.if_icmp .eq 21, 3) := by decide +kernel
theorem d_B_isInterface_6 : decode b_B_isInterface 6 = .ok (.iload_n 0, 1) := by decide +kernel
theorem d_B_isInterface_7 : decode b_B_isInterface 7 = .ok (.bipush 12, 2) := by decide +kernel
theorem d_B_isInterface_9 : decode b_B_isInterface 9 = .ok (.if_icmp .eq 15, 3) := by decide +kernel
theorem d_B_isInterface_12 : decode b_B_isInterface 12 = .ok (.iload_n 0, 1) := by decide +kernel
theorem d_B_isInterface_13 : decode b_B_isInterface 13 = .ok (.bipush 13, 2) := by decide +kernel
theorem d_B_isInterface_15 : decode b_B_isInterface 15 = .ok (.if_icmp .eq 9, 3) := by decide +kernel
theorem d_B_isInterface_18 : decode b_B_isInterface 18 = .ok (.iload_n 0, 1) := by decide +kernel
theorem d_B_isInterface_19 : decode b_B_isInterface 19 = .ok (.bipush 20, 2) := by decide +kernel
theorem d_B_isInterface_21 : decode b_B_isInterface 21 = .ok (.if_icmp .ne 7, 3) := by decide +kernel
theorem d_B_isInterface_24 : decode b_B_isInterface 24 = .ok (.iconst 1, 1) := by decide +kernel
theorem d_B_isInterface_25 : decode b_B_isInterface 25 = .ok (.goto 4, 3) := by decide +kernel
theorem d_B_isInterface_28 : decode b_B_isInterface 28 = .ok (.iconst 0, 1) := by decide +kernel
theorem d_B_isInterface_29 : decode b_B_isInterface 29 = .ok (.ireturn, 1) := by decide +kernel
theorem d_B_modifiers_0 : decode b_B_modifiers 0 = .ok (.iload_n 0, 1) := by decide +kernel
theorem d_B_modifiers_1 : decode b_B_modifiers 1 = .ok (.invokestatic 15, 3) := by decide +kernel
theorem d_B_modifiers_4 : decode b_B_modifiers 4 = .ok (.invokestatic 69, 3) := by decide +kernel
theorem d_B_modifiers_7 : decode b_B_modifiers 7 = .ok (.istore_n 1, 1) := by decide +kernel
theorem d_B_modifiers_8 : decode b_B_modifiers 8 = .ok (.iload_n 0, 1) := by decide +kernel
theorem d_B_modifiers_9 : decode b_B_modifiers 9 = .ok (.invokestatic 72, 3) := by decide +kernel
theorem d_B_modifiers_12 : decode b_B_modifiers 12 = .ok (.ifCond .eq 14, 3) := by decide +kernel
theorem d_B_modifiers_15 : decode b_B_modifiers 15 = .ok (.sipush 1040, 3) := by decide +kernel
theorem d_B_modifiers_18 : decode b_B_modifiers 18 = .ok (.iload_n 1, 1) := by decide +kernel
theorem d_B_modifiers_19 : decode b_B_modifiers 19 = .ok (.bipush 7, 2) := by decide +kernel
theorem d_B_modifiers_21 : decode b_B_modifiers 21 = .ok (.iand, 1) := by decide +kernel
theorem d_B_modifiers_22 : decode b_B_modifiers 22 = .ok (.iadd, 1) := by decide +kernel
theorem d_B_modifiers_23 : decode b_B_modifiers 23 = .ok (.goto 4, 3) := by decide +kernel
theorem d_B_modifiers_26 : decode b_B_modifiers 26 = .ok (.iload_n 1, 1) := by decide +kernel
theorem d_B_modifiers_27 : decode b_B_modifiers 27 = .ok (.ireturn, 1) := by decide +kernel
theorem d_B_plainModifiers_0 : decode b_B_plainModifiers 0 = .ok (.iload_n 0, 1) := by decide +kernel
theorem d_B_plainModifiers_1 : decode b_B_plainModifiers 1 = .ok (.tableswitch 120 9 24 #[79, 81, 85, 88, 88, 92, 92, 95, 99, 103, 105, 107, 111, 115, 118, 118], 79) := by decide +kernel
theorem d_B_plainModifiers_80 : decode b_B_plainModifiers 80 = .ok (.iconst 1, 1) := by decide +kernel
theorem d_B_plainModifiers_81 : decode b_B_plainModifiers 81 = .ok (.ireturn, 1) := by decide +kernel
theorem d_B_plainModifiers_82 : decode b_B_plainModifiers 82 = .ok (.sipush 1537, 3) := by decide +kernel
theorem d_B_plainModifiers_85 : decode b_B_plainModifiers 85 = .ok (.ireturn, 1) := by decide +kernel
theorem d_B_plainModifiers_86 : decode b_B_plainModifiers 86 = .ok (.bipush 17, 2) := by decide +kernel
theorem d_B_plainModifiers_88 : decode b_B_plainModifiers 88 = .ok (.ireturn, 1) := by decide +kernel
theorem d_B_plainModifiers_89 : decode b_B_plainModifiers 89 = .ok (.sipush 1544, 3) := by decide +kernel
theorem d_B_plainModifiers_92 : decode b_B_plainModifiers 92 = .ok (.ireturn, 1) := by decide +kernel
theorem d_B_plainModifiers_93 : decode b_B_plainModifiers 93 = .ok (.bipush 24, 2) := by decide +kernel
theorem d_B_plainModifiers_95 : decode b_B_plainModifiers 95 = .ok (.ireturn, 1) := by decide +kernel
theorem d_B_plainModifiers_96 : decode b_B_plainModifiers 96 = .ok (.sipush 16392, 3) := by decide +kernel
theorem d_B_plainModifiers_99 : decode b_B_plainModifiers 99 = .ok (.ireturn, 1) := by decide +kernel
theorem d_B_plainModifiers_100 : decode b_B_plainModifiers 100 = .ok (.sipush 16400, 3) := by decide +kernel
theorem d_B_plainModifiers_103 : decode b_B_plainModifiers 103 = .ok (.ireturn, 1) := by decide +kernel
theorem d_B_plainModifiers_104 : decode b_B_plainModifiers 104 = .ok (.iconst 2, 1) := by decide +kernel
theorem d_B_plainModifiers_105 : decode b_B_plainModifiers 105 = .ok (.ireturn, 1) := by decide +kernel
theorem d_B_plainModifiers_106 : decode b_B_plainModifiers 106 = .ok (.iconst 4, 1) := by decide +kernel
theorem d_B_plainModifiers_107 : decode b_B_plainModifiers 107 = .ok (.ireturn, 1) := by decide +kernel
theorem d_B_plainModifiers_108 : decode b_B_plainModifiers 108 = .ok (.sipush 9736, 3) := by decide +kernel
theorem d_B_plainModifiers_111 : decode b_B_plainModifiers 111 = .ok (.ireturn, 1) := by decide +kernel
theorem d_B_plainModifiers_112 : decode b_B_plainModifiers 112 = .ok (.sipush 1032, 3) := by decide +kernel
theorem d_B_plainModifiers_115 : decode b_B_plainModifiers 115 = .ok (.ireturn, 1) := by decide +kernel
theorem d_B_plainModifiers_116 : decode b_B_plainModifiers 116 = .ok (.bipush 8, 2) := by decide +kernel
theorem d_B_plainModifiers_118 : decode b_B_plainModifiers 118 = .ok (.ireturn, 1) := by decide +kernel
theorem d_B_plainModifiers_119 : decode b_B_plainModifiers 119 = .ok (.iconst 0, 1) := by decide +kernel
theorem d_B_plainModifiers_120 : decode b_B_plainModifiers 120 = .ok (.ireturn, 1) := by decide +kernel
theorem d_B_plainModifiers_121 : decode b_B_plainModifiers 121 = .ok (.sipush 1041, 3) := by decide +kernel
theorem d_B_plainModifiers_124 : decode b_B_plainModifiers 124 = .ok (.ireturn, 1) := by decide +kernel
theorem d_B_isMember_0 : decode b_B_isMember 0 = .ok (.iload_n 0, 1) := by decide +kernel
theorem d_B_isMember_1 : decode b_B_isMember 1 = .ok (.bipush 12, 2) := by decide +kernel
theorem d_B_isMember_3 : decode b_B_isMember 3 = .ok (.if_icmp .lt 19, 3) := by decide +kernel
theorem d_B_isMember_6 : decode b_B_isMember 6 = .ok (.iload_n 0, 1) := by decide +kernel
theorem d_B_isMember_7 : decode b_B_isMember 7 = .ok (.bipush 22, 2) := by decide +kernel
theorem d_B_isMember_9 : decode b_B_isMember 9 = .ok (.if_icmp .gt 13, 3) := by decide +kernel
theorem d_B_isMember_12 : decode b_B_isMember 12 = .ok (.iload_n 0, 1) := by decide +kernel
theorem d_B_isMember_13 : decode b_B_isMember 13 = .ok (.bipush 17, 2) := by decide +kernel
theorem d_B_isMember_15 : decode b_B_isMember 15 = .ok (.if_icmp .eq 7, 3) := by decide +kernel
theorem d_B_isMember_18 : decode b_B_isMember 18 = .ok (.iconst 1, 1) := by decide +kernel
theorem d_B_isMember_19 : decode b_B_isMember 19 = .ok (.goto 4, 3) := by decide +kernel
theorem d_B_isMember_22 : decode b_B_isMember 22 = .ok (.iconst 0, 1) := by decide +kernel
theorem d_B_isMember_23 : decode b_B_isMember 23 = .ok (.ireturn, 1) := by decide +kernel
theorem d_B_interfaceCount_0 : decode b_B_interfaceCount 0 = .ok (.iload_n 0, 1) := by decide +kernel
theorem d_B_interfaceCount_1 : decode b_B_interfaceCount 1 = .ok (.invokestatic 72, 3) := by decide +kernel
theorem d_B_interfaceCount_4 : decode b_B_interfaceCount 4 = .ok (.ifCond .ne 9, 3) := by decide +kernel
theorem d_B_interfaceCount_7 : decode b_B_interfaceCount 7 = .ok (.iload_n 0, 1) := by decide +kernel
theorem d_B_interfaceCount_8 : decode b_B_interfaceCount 8 = .ok (.bipush 15, 2) := by decide +kernel
theorem d_B_interfaceCount_10 : decode b_B_interfaceCount 10 = .ok (.if_icmp .ne 5, 3) := by decide +kernel
theorem d_B_interfaceCount_13 : decode b_B_interfaceCount 13 = .ok (.iconst 2, 1) := by decide +kernel
theorem d_B_interfaceCount_14 : decode b_B_interfaceCount 14 = .ok (.ireturn, 1) := by decide +kernel
theorem d_B_interfaceCount_15 : decode b_B_interfaceCount 15 = .ok (.iload_n 0, 1) := by decide +kernel
theorem d_B_interfaceCount_16 : decode b_B_interfaceCount 16 = .ok (.bipush 14, 2) := by decide +kernel
theorem d_B_interfaceCount_18 : decode b_B_interfaceCount 18 = .ok (.if_icmp .eq 27, 3) := by decide +kernel
theorem d_B_interfaceCount_21 : decode b_B_interfaceCount 21 = .ok (.iload_n 0, 1) := by decide +kernel
theorem d_B_interfaceCount_22 : decode b_B_interfaceCount 22 = .ok (.bipush 20, 2) := by decide +kernel
theorem d_B_interfaceCount_24 : decode b_B_interfaceCount 24 = .ok (.if_icmp .eq 21, 3) := by decide +kernel
theorem d_B_interfaceCount_27 : decode b_B_interfaceCount 27 = .ok (.iload_n 0, 1) := by decide +kernel
theorem d_B_interfaceCount_28 : decode b_B_interfaceCount 28 = .ok (.bipush 21, 2) := by decide +kernel
theorem d_B_interfaceCount_30 : decode b_B_interfaceCount 30 = .ok (.if_icmp .eq 15, 3) := by decide +kernel
theorem d_B_interfaceCount_33 : decode b_B_interfaceCount 33 = .ok (.iload_n 0, 1) := by decide +kernel
theorem d_B_interfaceCount_34 : decode b_B_interfaceCount 34 = .ok (.bipush 23, 2) := by decide +kernel
theorem d_B_interfaceCount_36 : decode b_B_interfaceCount 36 = .ok (.if_icmp .eq 9, 3) := by decide +kernel
theorem d_B_interfaceCount_39 : decode b_B_interfaceCount 39 = .ok (.iload_n 0, 1) := by decide +kernel
theorem d_B_interfaceCount_40 : decode b_B_interfaceCount 40 = .ok (.bipush 24, 2) := by decide +kernel
theorem d_B_interfaceCount_42 : decode b_B_interfaceCount 42 = .ok (.if_icmp .ne 7, 3) := by decide +kernel
theorem d_B_interfaceCount_45 : decode b_B_interfaceCount 45 = .ok (.iconst 1, 1) := by decide +kernel
theorem d_B_interfaceCount_46 : decode b_B_interfaceCount 46 = .ok (.goto 4, 3) := by decide +kernel
theorem d_B_interfaceCount_49 : decode b_B_interfaceCount 49 = .ok (.iconst 0, 1) := by decide +kernel
theorem d_B_interfaceCount_50 : decode b_B_interfaceCount 50 = .ok (.ireturn, 1) := by decide +kernel
theorem d_B_permitted_0 : decode b_B_permitted 0 = .ok (.iload_n 0, 1) := by decide +kernel
theorem d_B_permitted_1 : decode b_B_permitted 1 = .ok (.bipush 13, 2) := by decide +kernel
theorem d_B_permitted_3 : decode b_B_permitted 3 = .ok (.if_icmp .ne 5, 3) := by decide +kernel
theorem d_B_permitted_6 : decode b_B_permitted 6 = .ok (.iconst 2, 1) := by decide +kernel
theorem d_B_permitted_7 : decode b_B_permitted 7 = .ok (.ireturn, 1) := by decide +kernel
theorem d_B_permitted_8 : decode b_B_permitted 8 = .ok (.iload_n 0, 1) := by decide +kernel
theorem d_B_permitted_9 : decode b_B_permitted 9 = .ok (.bipush 16, 2) := by decide +kernel
theorem d_B_permitted_11 : decode b_B_permitted 11 = .ok (.if_icmp .ne 7, 3) := by decide +kernel
theorem d_B_permitted_14 : decode b_B_permitted 14 = .ok (.iconst 1, 1) := by decide +kernel
theorem d_B_permitted_15 : decode b_B_permitted 15 = .ok (.goto 5, 3) := by decide +kernel
theorem d_B_permitted_18 : decode b_B_permitted 18 = .ok (.bipush (-2), 2) := by decide +kernel
theorem d_B_permitted_20 : decode b_B_permitted 20 = .ok (.ireturn, 1) := by decide +kernel
theorem d_B_memberCount_0 : decode b_B_memberCount 0 = .ok (.iload_n 0, 1) := by decide +kernel
theorem d_B_memberCount_1 : decode b_B_memberCount 1 = .ok (.bipush 11, 2) := by decide +kernel
theorem d_B_memberCount_3 : decode b_B_memberCount 3 = .ok (.if_icmp .ne 6, 3) := by decide +kernel
theorem d_B_memberCount_6 : decode b_B_memberCount 6 = .ok (.bipush 9, 2) := by decide +kernel
theorem d_B_memberCount_8 : decode b_B_memberCount 8 = .ok (.ireturn, 1) := by decide +kernel
theorem d_B_memberCount_9 : decode b_B_memberCount 9 = .ok (.iload_n 0, 1) := by decide +kernel
theorem d_B_memberCount_10 : decode b_B_memberCount 10 = .ok (.bipush 18, 2) := by decide +kernel
theorem d_B_memberCount_12 : decode b_B_memberCount 12 = .ok (.if_icmp .ne 7, 3) := by decide +kernel
theorem d_B_memberCount_15 : decode b_B_memberCount 15 = .ok (.iconst 1, 1) := by decide +kernel
theorem d_B_memberCount_16 : decode b_B_memberCount 16 = .ok (.goto 4, 3) := by decide +kernel
theorem d_B_memberCount_19 : decode b_B_memberCount 19 = .ok (.iconst 0, 1) := by decide +kernel
theorem d_B_memberCount_20 : decode b_B_memberCount 20 = .ok (.ireturn, 1) := by decide +kernel
theorem d_B_nestSize_0 : decode b_B_nestSize 0 = .ok (.iload_n 0, 1) := by decide +kernel
theorem d_B_nestSize_1 : decode b_B_nestSize 1 = .ok (.bipush 9, 2) := by decide +kernel
theorem d_B_nestSize_3 : decode b_B_nestSize 3 = .ok (.if_icmp .eq 9, 3) := by decide +kernel
theorem d_B_nestSize_6 : decode b_B_nestSize 6 = .ok (.iload_n 0, 1) := by decide +kernel
theorem d_B_nestSize_7 : decode b_B_nestSize 7 = .ok (.bipush 10, 2) := by decide +kernel
theorem d_B_nestSize_9 : decode b_B_nestSize 9 = .ok (.if_icmp .ne 5, 3) := by decide +kernel
theorem d_B_nestSize_12 : decode b_B_nestSize 12 = .ok (.iconst (-1), 1) := by decide +kernel
theorem d_B_nestSize_13 : decode b_B_nestSize 13 = .ok (.ireturn, 1) := by decide +kernel
theorem d_B_nestSize_14 : decode b_B_nestSize 14 = .ok (.iload_n 0, 1) := by decide +kernel
theorem d_B_nestSize_15 : decode b_B_nestSize 15 = .ok (.invokestatic 96, 3) := by decide +kernel
theorem d_B_nestSize_18 : decode b_B_nestSize 18 = .ok (.ifCond .eq 8, 3) := by decide +kernel
theorem d_B_nestSize_21 : decode b_B_nestSize 21 = .ok (.bipush 14, 2) := by decide +kernel
theorem d_B_nestSize_23 : decode b_B_nestSize 23 = .ok (.goto 4, 3) := by decide +kernel
theorem d_B_nestSize_26 : decode b_B_nestSize 26 = .ok (.iconst 1, 1) := by decide +kernel
theorem d_B_nestSize_27 : decode b_B_nestSize 27 = .ok (.ireturn, 1) := by decide +kernel
theorem d_B_isInNest_0 : decode b_B_isInNest 0 = .ok (.iload_n 0, 1) := by decide +kernel
theorem d_B_isInNest_1 : decode b_B_isInNest 1 = .ok (.bipush 11, 2) := by decide +kernel
theorem d_B_isInNest_3 : decode b_B_isInNest 3 = .ok (.if_icmp .lt 13, 3) := by decide +kernel
theorem d_B_isInNest_6 : decode b_B_isInNest 6 = .ok (.iload_n 0, 1) := by decide +kernel
theorem d_B_isInNest_7 : decode b_B_isInNest 7 = .ok (.bipush 25, 2) := by decide +kernel
theorem d_B_isInNest_9 : decode b_B_isInNest 9 = .ok (.if_icmp .ge 7, 3) := by decide +kernel
theorem d_B_isInNest_12 : decode b_B_isInNest 12 = .ok (.iconst 1, 1) := by decide +kernel
theorem d_B_isInNest_13 : decode b_B_isInNest 13 = .ok (.goto 4, 3) := by decide +kernel
theorem d_B_isInNest_16 : decode b_B_isInNest 16 = .ok (.iconst 0, 1) := by decide +kernel
theorem d_B_isInNest_17 : decode b_B_isInNest 17 = .ok (.ireturn, 1) := by decide +kernel
theorem d_B_classUp_0 : decode b_B_classUp 0 = .ok (.iload_n 0, 1) := by decide +kernel
theorem d_B_classUp_1 : decode b_B_classUp 1 = .ok (.tableswitch 67 14 23 #[55, 67, 55, 58, 67, 67, 67, 67, 61, 64], 55) := by decide +kernel
theorem d_B_classUp_56 : decode b_B_classUp 56 = .ok (.bipush (-3), 2) := by decide +kernel
theorem d_B_classUp_58 : decode b_B_classUp 58 = .ok (.ireturn, 1) := by decide +kernel
theorem d_B_classUp_59 : decode b_B_classUp 59 = .ok (.bipush 16, 2) := by decide +kernel
theorem d_B_classUp_61 : decode b_B_classUp 61 = .ok (.ireturn, 1) := by decide +kernel
theorem d_B_classUp_62 : decode b_B_classUp 62 = .ok (.bipush 21, 2) := by decide +kernel
theorem d_B_classUp_64 : decode b_B_classUp 64 = .ok (.ireturn, 1) := by decide +kernel
theorem d_B_classUp_65 : decode b_B_classUp 65 = .ok (.bipush 22, 2) := by decide +kernel
theorem d_B_classUp_67 : decode b_B_classUp 67 = .ok (.ireturn, 1) := by decide +kernel
theorem d_B_classUp_68 : decode b_B_classUp 68 = .ok (.iload_n 0, 1) := by decide +kernel
theorem d_B_classUp_69 : decode b_B_classUp 69 = .ok (.bipush 9, 2) := by decide +kernel
theorem d_B_classUp_71 : decode b_B_classUp 71 = .ok (.if_icmp .le 10, 3) := by decide +kernel
theorem d_B_classUp_74 : decode b_B_classUp 74 = .ok (.iload_n 0, 1) := by decide +kernel
theorem d_B_classUp_75 : decode b_B_classUp 75 = .ok (.invokestatic 76, 3) := by decide +kernel
theorem d_B_classUp_78 : decode b_B_classUp 78 = .ok (.ifCond .eq 8, 3) := by decide +kernel
theorem d_B_classUp_81 : decode b_B_classUp 81 = .ok (.bipush (-2), 2) := by decide +kernel
theorem d_B_classUp_83 : decode b_B_classUp 83 = .ok (.goto 5, 3) := by decide +kernel
theorem d_B_classUp_86 : decode b_B_classUp 86 = .ok (.bipush 9, 2) := by decide +kernel
theorem d_B_classUp_88 : decode b_B_classUp 88 = .ok (.ireturn, 1) := by decide +kernel
theorem d_B_standsIn_0 : decode b_B_standsIn 0 = .ok (.iload_n 0, 1) := by decide +kernel
theorem d_B_standsIn_1 : decode b_B_standsIn 1 = .ok (.bipush 17, 2) := by decide +kernel
theorem d_B_standsIn_3 : decode b_B_standsIn 3 = .ok (.if_icmp .ne 6, 3) := by decide +kernel
theorem d_B_standsIn_6 : decode b_B_standsIn 6 = .ok (.bipush 16, 2) := by decide +kernel
theorem d_B_standsIn_8 : decode b_B_standsIn 8 = .ok (.ireturn, 1) := by decide +kernel
theorem d_B_standsIn_9 : decode b_B_standsIn 9 = .ok (.iload_n 0, 1) := by decide +kernel
theorem d_B_standsIn_10 : decode b_B_standsIn 10 = .ok (.bipush 19, 2) := by decide +kernel
theorem d_B_standsIn_12 : decode b_B_standsIn 12 = .ok (.if_icmp .ne 6, 3) := by decide +kernel
theorem d_B_standsIn_15 : decode b_B_standsIn 15 = .ok (.bipush 18, 2) := by decide +kernel
theorem d_B_standsIn_17 : decode b_B_standsIn 17 = .ok (.ireturn, 1) := by decide +kernel
theorem d_B_standsIn_18 : decode b_B_standsIn 18 = .ok (.iload_n 0, 1) := by decide +kernel
theorem d_B_standsIn_19 : decode b_B_standsIn 19 = .ok (.invokestatic 96, 3) := by decide +kernel
theorem d_B_standsIn_22 : decode b_B_standsIn 22 = .ok (.ifCond .eq 14, 3) := by decide +kernel
theorem d_B_standsIn_25 : decode b_B_standsIn 25 = .ok (.iload_n 0, 1) := by decide +kernel
theorem d_B_standsIn_26 : decode b_B_standsIn 26 = .ok (.bipush 11, 2) := by decide +kernel
theorem d_B_standsIn_28 : decode b_B_standsIn 28 = .ok (.if_icmp .eq 8, 3) := by decide +kernel
theorem d_B_standsIn_31 : decode b_B_standsIn 31 = .ok (.bipush 11, 2) := by decide +kernel
theorem d_B_standsIn_33 : decode b_B_standsIn 33 = .ok (.goto 5, 3) := by decide +kernel
theorem d_B_standsIn_36 : decode b_B_standsIn 36 = .ok (.bipush (-2), 2) := by decide +kernel
theorem d_B_standsIn_38 : decode b_B_standsIn 38 = .ok (.ireturn, 1) := by decide +kernel
theorem d_B_arrayOf_0 : decode b_B_arrayOf 0 = .ok (.iload_n 1, 1) := by decide +kernel
theorem d_B_arrayOf_1 : decode b_B_arrayOf 1 = .ok (.ifCond .le 12, 3) := by decide +kernel
theorem d_B_arrayOf_4 : decode b_B_arrayOf 4 = .ok (.iload_n 0, 1) := by decide +kernel
theorem d_B_arrayOf_5 : decode b_B_arrayOf 5 = .ok (.bipush 8, 2) := by decide +kernel
theorem d_B_arrayOf_7 : decode b_B_arrayOf 7 = .ok (.if_icmp .ne 6, 3) := by decide +kernel
theorem d_B_arrayOf_10 : decode b_B_arrayOf 10 = .ok (.bipush (-2), 2) := by decide +kernel
theorem d_B_arrayOf_12 : decode b_B_arrayOf 12 = .ok (.ireturn, 1) := by decide +kernel
theorem d_B_arrayOf_13 : decode b_B_arrayOf 13 = .ok (.iload_n 1, 1) := by decide +kernel
theorem d_B_arrayOf_14 : decode b_B_arrayOf 14 = .ok (.iconst 2, 1) := by decide +kernel
theorem d_B_arrayOf_15 : decode b_B_arrayOf 15 = .ok (.iload_n 0, 1) := by decide +kernel
theorem d_B_arrayOf_16 : decode b_B_arrayOf 16 = .ok (.invokestatic 9, 3) := by decide +kernel
theorem d_B_arrayOf_19 : decode b_B_arrayOf 19 = .ok (.isub, 1) := by decide +kernel
theorem d_B_arrayOf_20 : decode b_B_arrayOf 20 = .ok (.if_icmp .le 8, 3) := by decide +kernel
theorem d_B_arrayOf_23 : decode b_B_arrayOf 23 = .ok (.bipush (-3), 2) := by decide +kernel
theorem d_B_arrayOf_25 : decode b_B_arrayOf 25 = .ok (.goto 9, 3) := by decide +kernel
theorem d_B_arrayOf_28 : decode b_B_arrayOf 28 = .ok (.iload_n 0, 1) := by decide +kernel
theorem d_B_arrayOf_29 : decode b_B_arrayOf 29 = .ok (.iload_n 1, 1) := by decide +kernel
theorem d_B_arrayOf_30 : decode b_B_arrayOf 30 = .ok (.bipush 40, 2) := by decide +kernel
theorem d_B_arrayOf_32 : decode b_B_arrayOf 32 = .ok (.imul, 1) := by decide +kernel
theorem d_B_arrayOf_33 : decode b_B_arrayOf 33 = .ok (.iadd, 1) := by decide +kernel
theorem d_B_arrayOf_34 : decode b_B_arrayOf 34 = .ok (.ireturn, 1) := by decide +kernel
theorem d_B_interfaceAt_0 : decode b_B_interfaceAt 0 = .ok (.iload_n 1, 1) := by decide +kernel
theorem d_B_interfaceAt_1 : decode b_B_interfaceAt 1 = .ok (.ifCond .lt 11, 3) := by decide +kernel
theorem d_B_interfaceAt_4 : decode b_B_interfaceAt 4 = .ok (.iload_n 1, 1) := by decide +kernel
theorem d_B_interfaceAt_5 : decode b_B_interfaceAt 5 = .ok (.iload_n 0, 1) := by decide +kernel
theorem d_B_interfaceAt_6 : decode b_B_interfaceAt 6 = .ok (.invokestatic 79, 3) := by decide +kernel
theorem d_B_interfaceAt_9 : decode b_B_interfaceAt 9 = .ok (.if_icmp .lt 6, 3) := by decide +kernel
theorem d_B_interfaceAt_12 : decode b_B_interfaceAt 12 = .ok (.bipush (-2), 2) := by decide +kernel
theorem d_B_interfaceAt_14 : decode b_B_interfaceAt 14 = .ok (.ireturn, 1) := by decide +kernel
theorem d_B_interfaceAt_15 : decode b_B_interfaceAt 15 = .ok (.iload_n 0, 1) := by decide +kernel
theorem d_B_interfaceAt_16 : decode b_B_interfaceAt 16 = .ok (.lookupswitch 65 #[(14, 44), (15, 47), (23, 59), (24, 62)], 44) := by decide +kernel
theorem d_B_interfaceAt_60 : decode b_B_interfaceAt 60 = .ok (.bipush 13, 2) := by decide +kernel
theorem d_B_interfaceAt_62 : decode b_B_interfaceAt 62 = .ok (.ireturn, 1) := by decide +kernel
theorem d_B_interfaceAt_63 : decode b_B_interfaceAt 63 = .ok (.iload_n 1, 1) := by decide +kernel
theorem d_B_interfaceAt_64 : decode b_B_interfaceAt 64 = .ok (.ifCond .ne 8, 3) := by decide +kernel
theorem d_B_interfaceAt_67 : decode b_B_interfaceAt 67 = .ok (.bipush 13, 2) := by decide +kernel
theorem d_B_interfaceAt_69 : decode b_B_interfaceAt 69 = .ok (.goto 5, 3) := by decide +kernel
theorem d_B_interfaceAt_72 : decode b_B_interfaceAt 72 = .ok (.bipush 12, 2) := by decide +kernel
theorem d_B_interfaceAt_74 : decode b_B_interfaceAt 74 = .ok (.ireturn, 1) := by decide +kernel
theorem d_B_interfaceAt_75 : decode b_B_interfaceAt 75 = .ok (.bipush 12, 2) := by decide +kernel
theorem d_B_interfaceAt_77 : decode b_B_interfaceAt 77 = .ok (.ireturn, 1) := by decide +kernel
theorem d_B_interfaceAt_78 : decode b_B_interfaceAt 78 = .ok (.bipush 10, 2) := by decide +kernel
theorem d_B_interfaceAt_80 : decode b_B_interfaceAt 80 = .ok (.ireturn, 1) := by decide +kernel
theorem d_B_interfaceAt_81 : decode b_B_interfaceAt 81 = .ok (.bipush (-3), 2) := by decide +kernel
theorem d_B_interfaceAt_83 : decode b_B_interfaceAt 83 = .ok (.ireturn, 1) := by decide +kernel
theorem d_B_fits_0 : decode b_B_fits 0 = .ok (.iload_n 0, 1) := by decide +kernel
theorem d_B_fits_1 : decode b_B_fits 1 = .ok (.istore_n 2, 1) := by decide +kernel
theorem d_B_fits_2 : decode b_B_fits 2 = .ok (.iload_n 1, 1) := by decide +kernel
theorem d_B_fits_3 : decode b_B_fits 3 = .ok (.istore_n 3, 1) := by decide +kernel
theorem d_B_fits_4 : decode b_B_fits 4 = .ok (.iconst 0, 1) := by decide +kernel
theorem d_B_fits_5 : decode b_B_fits 5 = .ok (.istore 4, 2) := by decide +kernel
theorem d_B_fits_7 : decode b_B_fits 7 = .ok (.iload 4, 2) := by decide +kernel
theorem d_B_fits_9 : decode b_B_fits 9 = .ok (.iconst 2, 1) := by decide +kernel
theorem d_B_fits_10 : decode b_B_fits 10 = .ok (.if_icmp .ge 29, 3) := by decide +kernel
theorem d_B_fits_13 : decode b_B_fits 13 = .ok (.iload_n 2, 1) := by decide +kernel
theorem d_B_fits_14 : decode b_B_fits 14 = .ok (.invokestatic 72, 3) := by decide +kernel
theorem d_B_fits_17 : decode b_B_fits 17 = .ok (.ifCond .eq 22, 3) := by decide +kernel
theorem d_B_fits_20 : decode b_B_fits 20 = .ok (.iload_n 3, 1) := by decide +kernel
theorem d_B_fits_21 : decode b_B_fits 21 = .ok (.invokestatic 72, 3) := by decide +kernel
theorem d_B_fits_24 : decode b_B_fits 24 = .ok (.ifCond .eq 15, 3) := by decide +kernel
theorem d_B_fits_27 : decode b_B_fits 27 = .ok (.iinc 2 (-40), 3) := by decide +kernel
theorem d_B_fits_30 : decode b_B_fits 30 = .ok (.iinc 3 (-40), 3) := by decide +kernel
theorem d_B_fits_33 : decode b_B_fits 33 = .ok (.iinc 4 1, 3) := by decide +kernel
theorem d_B_fits_36 : decode b_B_fits 36 = .ok (.goto (-29), 3) := by decide +kernel
theorem d_B_fits_39 : decode b_B_fits 39 = .ok (.iload_n 3, 1) := by decide +kernel
theorem d_B_fits_40 : decode b_B_fits 40 = .ok (.bipush 9, 2) := by decide +kernel
theorem d_B_fits_42 : decode b_B_fits 42 = .ok (.if_icmp .ne 18, 3) := by decide +kernel
theorem d_B_fits_45 : decode b_B_fits 45 = .ok (.iload_n 2, 1) := by decide +kernel
theorem d_B_fits_46 : decode b_B_fits 46 = .ok (.invokestatic 82, 3) := by decide +kernel
theorem d_B_fits_49 : decode b_B_fits 49 = .ok (.ifCond .ne 7, 3) := by decide +kernel
theorem d_B_fits_52 : decode b_B_fits 52 = .ok (.iconst 1, 1) := by decide +kernel
theorem d_B_fits_53 : decode b_B_fits 53 = .ok (.goto 12, 3) := by decide +kernel
theorem d_B_fits_56 : decode b_B_fits 56 = .ok (.iconst 0, 1) := by decide +kernel
theorem d_B_fits_57 : decode b_B_fits 57 = .ok (.goto 8, 3) := by decide +kernel
theorem d_B_fits_60 : decode b_B_fits 60 = .ok (.iload_n 2, 1) := by decide +kernel
theorem d_B_fits_61 : decode b_B_fits 61 = .ok (.iload_n 3, 1) := by decide +kernel
theorem d_B_fits_62 : decode b_B_fits 62 = .ok (.invokestatic 85, 3) := by decide +kernel
theorem d_B_fits_65 : decode b_B_fits 65 = .ok (.ireturn, 1) := by decide +kernel
theorem d_B_reaches_0 : decode b_B_reaches 0 = .ok (.iload_n 0, 1) := by decide +kernel
theorem d_B_reaches_1 : decode b_B_reaches 1 = .ok (.istore_n 2, 1) := by decide +kernel
theorem d_B_reaches_2 : decode b_B_reaches 2 = .ok (.iconst 0, 1) := by decide +kernel
theorem d_B_reaches_3 : decode b_B_reaches 3 = .ok (.istore_n 3, 1) := by decide +kernel
theorem d_B_reaches_4 : decode b_B_reaches 4 = .ok (.iload_n 3, 1) := by decide +kernel
theorem d_B_reaches_5 : decode b_B_reaches 5 = .ok (.bipush 25, 2) := by decide +kernel
theorem d_B_reaches_7 : decode b_B_reaches 7 = .ok (.if_icmp .ge 43, 3) := by decide +kernel
theorem d_B_reaches_10 : decode b_B_reaches 10 = .ok (.iload_n 2, 1) := by decide +kernel
theorem d_B_reaches_11 : decode b_B_reaches 11 = .ok (.ifCond .lt 39, 3) := by decide +kernel
theorem d_B_reaches_14 : decode b_B_reaches 14 = .ok (.iload_n 2, 1) := by decide +kernel
theorem d_B_reaches_15 : decode b_B_reaches 15 = .ok (.iload_n 1, 1) := by decide +kernel
theorem d_B_reaches_16 : decode b_B_reaches 16 = .ok (.if_icmp .eq 21, 3) := by decide +kernel
theorem d_B_reaches_19 : decode b_B_reaches 19 = .ok (.iload_n 2, 1) := by decide +kernel
theorem d_B_reaches_20 : decode b_B_reaches 20 = .ok (.iconst 0, 1) := by decide +kernel
theorem d_B_reaches_21 : decode b_B_reaches 21 = .ok (.invokestatic 89, 3) := by decide +kernel
theorem d_B_reaches_24 : decode b_B_reaches 24 = .ok (.iload_n 1, 1) := by decide +kernel
theorem d_B_reaches_25 : decode b_B_reaches 25 = .ok (.if_icmp .eq 12, 3) := by decide +kernel
theorem d_B_reaches_28 : decode b_B_reaches 28 = .ok (.iload_n 2, 1) := by decide +kernel
theorem d_B_reaches_29 : decode b_B_reaches 29 = .ok (.iconst 1, 1) := by decide +kernel
theorem d_B_reaches_30 : decode b_B_reaches 30 = .ok (.invokestatic 89, 3) := by decide +kernel
theorem d_B_reaches_33 : decode b_B_reaches 33 = .ok (.iload_n 1, 1) := by decide +kernel
theorem d_B_reaches_34 : decode b_B_reaches 34 = .ok (.if_icmp .ne 5, 3) := by decide +kernel
theorem d_B_reaches_37 : decode b_B_reaches 37 = .ok (.iconst 1, 1) := by decide +kernel
theorem d_B_reaches_38 : decode b_B_reaches 38 = .ok (.ireturn, 1) := by decide +kernel
theorem d_B_reaches_39 : decode b_B_reaches 39 = .ok (.iload_n 2, 1) := by decide +kernel
theorem d_B_reaches_40 : decode b_B_reaches 40 = .ok (.invokestatic 93, 3) := by decide +kernel
theorem d_B_reaches_43 : decode b_B_reaches 43 = .ok (.istore_n 2, 1) := by decide +kernel
theorem d_B_reaches_44 : decode b_B_reaches 44 = .ok (.iinc 3 1, 3) := by decide +kernel
theorem d_B_reaches_47 : decode b_B_reaches 47 = .ok (.goto (-43), 3) := by decide +kernel
theorem d_B_reaches_50 : decode b_B_reaches 50 = .ok (.iconst 0, 1) := by decide +kernel
theorem d_B_reaches_51 : decode b_B_reaches 51 = .ok (.ireturn, 1) := by decide +kernel
theorem d_B_hasThings_0 : decode b_B_hasThings 0 = .ok (.iload_n 0, 1) := by decide +kernel
theorem d_B_hasThings_1 : decode b_B_hasThings 1 = .ok (.bipush 9, 2) := by decide +kernel
theorem d_B_hasThings_3 : decode b_B_hasThings 3 = .ok (.if_icmp .eq 22, 3) := by decide +kernel
theorem d_B_hasThings_6 : decode b_B_hasThings 6 = .ok (.iload_n 0, 1) := by decide +kernel
theorem d_B_hasThings_7 : decode b_B_hasThings 7 = .ok (.bipush 11, 2) := by decide +kernel
theorem d_B_hasThings_9 : decode b_B_hasThings 9 = .ok (.if_icmp .lt 20, 3) := by decide +kernel
theorem d_B_hasThings_12 : decode b_B_hasThings 12 = .ok (.iload_n 0, 1) := by decide +kernel
theorem d_B_hasThings_13 : decode b_B_hasThings 13 = .ok (.invokestatic 76, 3) := by decide +kernel
theorem d_B_hasThings_16 : decode b_B_hasThings 16 = .ok (.ifCond .ne 13, 3) := by decide +kernel
theorem d_B_hasThings_19 : decode b_B_hasThings 19 = .ok (.iload_n 0, 1) := by decide +kernel
theorem d_B_hasThings_20 : decode b_B_hasThings 20 = .ok (.bipush 21, 2) := by decide +kernel
theorem d_B_hasThings_22 : decode b_B_hasThings 22 = .ok (.if_icmp .eq 7, 3) := by decide +kernel
theorem d_B_hasThings_25 : decode b_B_hasThings 25 = .ok (.iconst 1, 1) := by decide +kernel
theorem d_B_hasThings_26 : decode b_B_hasThings 26 = .ok (.goto 4, 3) := by decide +kernel
theorem d_B_hasThings_29 : decode b_B_hasThings 29 = .ok (.iconst 0, 1) := by decide +kernel
theorem d_B_hasThings_30 : decode b_B_hasThings 30 = .ok (.ireturn, 1) := by decide +kernel
end
section
theorem d_P_init_0 : decode b_P_init 0 = .ok (.aload_n 0, 1) := by decide +kernel
theorem d_P_init_1 : decode b_P_init 1 = .ok (.invokespecial 1, 3) := by decide +kernel
theorem d_P_init_4 : decode b_P_init 4 = .ok (.aload_n 0, 1) := by decide +kernel
theorem d_P_init_5 : decode b_P_init 5 = .ok (.bipush 8, 2) := by decide +kernel
theorem d_P_init_7 : decode b_P_init 7 = .ok (.newarray .int, 2) := by decide +kernel
theorem d_P_init_9 : decode b_P_init 9 = .ok (.putfield 9, 3) := by decide +kernel
theorem d_P_init_12 : decode b_P_init 12 = .ok (.aload_n 0, 1) := by decide +kernel
theorem d_P_init_13 : decode b_P_init 13 = .ok (.new 13, 3) := by decide +kernel
theorem d_P_init_16 : decode b_P_init 16 = .ok (.dup, 1) := by decide +kernel
theorem d_P_init_17 : decode b_P_init 17 = .ok (.invokespecial 15, 3) := by decide +kernel
theorem d_P_init_20 : decode b_P_init 20 = .ok (.putfield 16, 3) := by decide +kernel
theorem d_P_init_23 : decode b_P_init 23 = .ok (.aload_n 0, 1) := by decide +kernel
theorem d_P_init_24 : decode b_P_init 24 = .ok (.new 20, 3) := by decide +kernel
theorem d_P_init_27 : decode b_P_init 27 = .ok (.dup, 1) := by decide +kernel
theorem d_P_init_28 : decode b_P_init 28 = .ok (.invokespecial 22, 3) := by decide +kernel
theorem d_P_init_31 : decode b_P_init 31 = .ok (.putfield 23, 3) := by decide +kernel
theorem d_P_init_34 : decode b_P_init 34 = .ok (.iconst 0, 1) := by decide +kernel
theorem d_P_init_35 : decode b_P_init 35 = .ok (.istore_n 1, 1) := by decide +kernel
theorem d_P_init_36 : decode b_P_init 36 = .ok (.iload_n 1, 1) := by decide +kernel
theorem d_P_init_37 : decode b_P_init 37 = .ok (.bipush 8, 2) := by decide +kernel
theorem d_P_init_39 : decode b_P_init 39 = .ok (.if_icmp .ge 17, 3) := by decide +kernel
theorem d_P_init_42 : decode b_P_init 42 = .ok (.aload_n 0, 1) := by decide +kernel
theorem d_P_init_43 : decode b_P_init 43 = .ok (.getfield 9, 3) := by decide +kernel
theorem d_P_init_46 : decode b_P_init 46 = .ok (.iload_n 1, 1) := by decide +kernel
theorem d_P_init_47 : decode b_P_init 47 = .ok (.bipush (-2), 2) := by decide +kernel
theorem d_P_init_49 : decode b_P_init 49 = .ok (.iastore, 1) := by decide +kernel
theorem d_P_init_50 : decode b_P_init 50 = .ok (.iinc 1 1, 3) := by decide +kernel
theorem d_P_init_53 : decode b_P_init 53 = .ok (.goto (-17), 3) := by decide +kernel
theorem d_P_init_56 : decode b_P_init 56 = .ok (.return_, 1) := by decide +kernel
theorem d_P_letter_0 : decode b_P_letter 0 = .ok (.aload_n 0, 1) := by decide +kernel
theorem d_P_letter_1 : decode b_P_letter 1 = .ok (.iload_n 1, 1) := by decide +kernel
theorem d_P_letter_2 : decode b_P_letter 2 = .ok (.iload_n 2, 1) := by decide +kernel
theorem d_P_letter_3 : decode b_P_letter 3 = .ok (.invokevirtual 27, 3) := by decide +kernel
theorem d_P_letter_6 : decode b_P_letter 6 = .ok (.istore 4, 2) := by decide +kernel
theorem d_P_letter_8 : decode b_P_letter 8 = .ok (.iload 4, 2) := by decide +kernel
theorem d_P_letter_10 : decode b_P_letter 10 = .ok (.ifCond .ge 6, 3) := by decide +kernel
theorem d_P_letter_13 : decode b_P_letter 13 = .ok (.iload 4, 2) := by decide +kernel
theorem d_P_letter_15 : decode b_P_letter 15 = .ok (.ireturn, 1) := by decide +kernel
theorem d_P_letter_16 : decode b_P_letter 16 = .ok (.iload_n 3, 1) := by decide +kernel
theorem d_P_letter_17 : decode b_P_letter 17 = .ok (.ifCond .lt 20, 3) := by decide +kernel
theorem d_P_letter_20 : decode b_P_letter 20 = .ok (.iload_n 3, 1) := by decide +kernel
theorem d_P_letter_21 : decode b_P_letter 21 = .ok (.iload 4, 2) := by decide +kernel
theorem d_P_letter_23 : decode b_P_letter 23 = .ok (.if_icmp .ge 14, 3) := by decide +kernel
theorem d_P_letter_26 : decode b_P_letter 26 = .ok (.aload_n 0, 1) := by decide +kernel
theorem d_P_letter_27 : decode b_P_letter 27 = .ok (.getfield 16, 3) := by decide +kernel
theorem d_P_letter_30 : decode b_P_letter 30 = .ok (.iload_n 3, 1) := by decide +kernel
theorem d_P_letter_31 : decode b_P_letter 31 = .ok (.invokevirtual 31, 3) := by decide +kernel
theorem d_P_letter_34 : decode b_P_letter 34 = .ok (.goto 4, 3) := by decide +kernel
theorem d_P_letter_37 : decode b_P_letter 37 = .ok (.iconst 0, 1) := by decide +kernel
theorem d_P_letter_38 : decode b_P_letter 38 = .ok (.ireturn, 1) := by decide +kernel
theorem d_P_writeText_0 : decode b_P_writeText 0 = .ok (.iload_n 1, 1) := by decide +kernel
theorem d_P_writeText_1 : decode b_P_writeText 1 = .ok (.invokestatic 35, 3) := by decide +kernel
theorem d_P_writeText_4 : decode b_P_writeText 4 = .ok (.ifCond .eq 13, 3) := by decide +kernel
theorem d_P_writeText_7 : decode b_P_writeText 7 = .ok (.iload_n 2, 1) := by decide +kernel
theorem d_P_writeText_8 : decode b_P_writeText 8 = .ok (.ifCond .lt 9, 3) := by decide +kernel
theorem d_P_writeText_11 : decode b_P_writeText 11 = .ok (.iload_n 2, 1) := by decide +kernel
theorem d_P_writeText_12 : decode b_P_writeText 12 = .ok (.bipush 7, 2) := by decide +kernel
theorem d_P_writeText_14 : decode b_P_writeText 14 = .ok (.if_icmp .le 5, 3) := by decide +kernel
theorem d_P_writeText_17 : decode b_P_writeText 17 = .ok (.iconst (-1), 1) := by decide +kernel
theorem d_P_writeText_18 : decode b_P_writeText 18 = .ok (.ireturn, 1) := by decide +kernel
theorem d_P_writeText_19 : decode b_P_writeText 19 = .ok (.aload_n 0, 1) := by decide +kernel
theorem d_P_writeText_20 : decode b_P_writeText 20 = .ok (.getfield 16, 3) := by decide +kernel
theorem d_P_writeText_23 : decode b_P_writeText 23 = .ok (.iload_n 1, 1) := by decide +kernel
theorem d_P_writeText_24 : decode b_P_writeText 24 = .ok (.iload_n 2, 1) := by decide +kernel
theorem d_P_writeText_25 : decode b_P_writeText 25 = .ok (.invokevirtual 115, 3) := by decide +kernel
theorem d_P_writeText_28 : decode b_P_writeText 28 = .ok (.ifCond .eq 13, 3) := by decide +kernel
theorem d_P_writeText_31 : decode b_P_writeText 31 = .ok (.aload_n 0, 1) := by decide +kernel
theorem d_P_writeText_32 : decode b_P_writeText 32 = .ok (.getfield 16, 3) := by decide +kernel
theorem d_P_writeText_35 : decode b_P_writeText 35 = .ok (.invokevirtual 118, 3) := by decide +kernel
theorem d_P_writeText_38 : decode b_P_writeText 38 = .ok (.goto 5, 3) := by decide +kernel
theorem d_P_writeText_41 : decode b_P_writeText 41 = .ok (.bipush (-2), 2) := by decide +kernel
theorem d_P_writeText_43 : decode b_P_writeText 43 = .ok (.ireturn, 1) := by decide +kernel
theorem d_P_size_0 : decode b_P_size 0 = .ok (.aload_n 0, 1) := by decide +kernel
theorem d_P_size_1 : decode b_P_size 1 = .ok (.iload_n 1, 1) := by decide +kernel
theorem d_P_size_2 : decode b_P_size 2 = .ok (.iload_n 2, 1) := by decide +kernel
theorem d_P_size_3 : decode b_P_size 3 = .ok (.invokevirtual 27, 3) := by decide +kernel
theorem d_P_size_6 : decode b_P_size 6 = .ok (.ireturn, 1) := by decide +kernel
theorem d_P_flag_0 : decode b_P_flag 0 = .ok (.iload_n 1, 1) := by decide +kernel
theorem d_P_flag_1 : decode b_P_flag 1 = .ok (.invokestatic 35, 3) := by decide +kernel
theorem d_P_flag_4 : decode b_P_flag 4 = .ok (.ifCond .ne 5, 3) := by decide +kernel
theorem d_P_flag_7 : decode b_P_flag 7 = .ok (.iconst 0, 1) := by decide +kernel
theorem d_P_flag_8 : decode b_P_flag 8 = .ok (.ireturn, 1) := by decide +kernel
theorem d_P_flag_9 : decode b_P_flag 9 = .ok (.iload_n 2, 1) := by decide +kernel
theorem d_P_flag_10 : decode b_P_flag 10 = .ok (.tableswitch 154 0 10 #[58, 63, 68, 73, 85, 97, 109, 127, 132, 144, 149], 58) := by decide +kernel
theorem d_P_flag_68 : decode b_P_flag 68 = .ok (.iload_n 1, 1) := by decide +kernel
theorem d_P_flag_69 : decode b_P_flag 69 = .ok (.invokestatic 41, 3) := by decide +kernel
theorem d_P_flag_72 : decode b_P_flag 72 = .ok (.ireturn, 1) := by decide +kernel
theorem d_P_flag_73 : decode b_P_flag 73 = .ok (.iload_n 1, 1) := by decide +kernel
theorem d_P_flag_74 : decode b_P_flag 74 = .ok (.invokestatic 44, 3) := by decide +kernel
theorem d_P_flag_77 : decode b_P_flag 77 = .ok (.ireturn, 1) := by decide +kernel
theorem d_P_flag_78 : decode b_P_flag 78 = .ok (.iload_n 1, 1) := by decide +kernel
theorem d_P_flag_79 : decode b_P_flag 79 = .ok (.invokestatic 47, 3) := by decide +kernel
theorem d_P_flag_82 : decode b_P_flag 82 = .ok (.ireturn, 1) := by decide +kernel
theorem d_P_flag_83 : decode b_P_flag 83 = .ok (.iload_n 1, 1) := by decide +kernel
theorem d_P_flag_84 : decode b_P_flag 84 = .ok (.bipush 20, 2) := by decide +kernel
theorem d_P_flag_86 : decode b_P_flag 86 = .ok (.if_icmp .ne 7, 3) := by decide +kernel
theorem d_P_flag_89 : decode b_P_flag 89 = .ok (.iconst 1, 1) := by decide +kernel
theorem d_P_flag_90 : decode b_P_flag 90 = .ok (.goto 4, 3) := by decide +kernel
theorem d_P_flag_93 : decode b_P_flag 93 = .ok (.iconst 0, 1) := by decide +kernel
theorem d_P_flag_94 : decode b_P_flag 94 = .ok (.ireturn, 1) := by decide +kernel
theorem d_P_flag_95 : decode b_P_flag 95 = .ok (.iload_n 1, 1) := by decide +kernel
theorem d_P_flag_96 : decode b_P_flag 96 = .ok (.bipush 16, 2) := by decide +kernel
theorem d_P_flag_98 : decode b_P_flag 98 = .ok (.if_icmp .ne 7, 3) := by decide +kernel
theorem d_P_flag_101 : decode b_P_flag 101 = .ok (.iconst 1, 1) := by decide +kernel
theorem d_P_flag_102 : decode b_P_flag 102 = .ok (.goto 4, 3) := by decide +kernel
theorem d_P_flag_105 : decode b_P_flag 105 = .ok (.iconst 0, 1) := by decide +kernel
theorem d_P_flag_106 : decode b_P_flag 106 = .ok (.ireturn, 1) := by decide +kernel
theorem d_P_flag_107 : decode b_P_flag 107 = .ok (.iload_n 1, 1) := by decide +kernel
theorem d_P_flag_108 : decode b_P_flag 108 = .ok (.bipush 14, 2) := by decide +kernel
theorem d_P_flag_110 : decode b_P_flag 110 = .ok (.if_icmp .ne 7, 3) := by decide +kernel
theorem d_P_flag_113 : decode b_P_flag 113 = .ok (.iconst 1, 1) := by decide +kernel
theorem d_P_flag_114 : decode b_P_flag 114 = .ok (.goto 4, 3) := by decide +kernel
theorem d_P_flag_117 : decode b_P_flag 117 = .ok (.iconst 0, 1) := by decide +kernel
theorem d_P_flag_118 : decode b_P_flag 118 = .ok (.ireturn, 1) := by decide +kernel
theorem d_P_flag_119 : decode b_P_flag 119 = .ok (.iload_n 1, 1) := by decide +kernel
theorem d_P_flag_120 : decode b_P_flag 120 = .ok (.bipush 13, 2) := by decide +kernel
theorem d_P_flag_122 : decode b_P_flag 122 = .ok (.if_icmp .eq 9, 3) := by decide +kernel
theorem d_P_flag_125 : decode b_P_flag 125 = .ok (.iload_n 1, 1) := by decide +kernel
theorem d_P_flag_126 : decode b_P_flag 126 = .ok (.bipush 16, 2) := by decide +kernel
theorem d_P_flag_128 : decode b_P_flag 128 = .ok (.if_icmp .ne 7, 3) := by decide +kernel
theorem d_P_flag_131 : decode b_P_flag 131 = .ok (.iconst 1, 1) := by decide +kernel
theorem d_P_flag_132 : decode b_P_flag 132 = .ok (.goto 4, 3) := by decide +kernel
theorem d_P_flag_135 : decode b_P_flag 135 = .ok (.iconst 0, 1) := by decide +kernel
theorem d_P_flag_136 : decode b_P_flag 136 = .ok (.ireturn, 1) := by decide +kernel
theorem d_P_flag_137 : decode b_P_flag 137 = .ok (.iload_n 1, 1) := by decide +kernel
theorem d_P_flag_138 : decode b_P_flag 138 = .ok (.invokestatic 50, 3) := by decide +kernel
theorem d_P_flag_141 : decode b_P_flag 141 = .ok (.ireturn, 1) := by decide +kernel
theorem d_P_flag_142 : decode b_P_flag 142 = .ok (.iload_n 1, 1) := by decide +kernel
theorem d_P_flag_143 : decode b_P_flag 143 = .ok (.bipush 23, 2) := by decide +kernel
theorem d_P_flag_145 : decode b_P_flag 145 = .ok (.if_icmp .ne 7, 3) := by decide +kernel
theorem d_P_flag_148 : decode b_P_flag 148 = .ok (.iconst 1, 1) := by decide +kernel
theorem d_P_flag_149 : decode b_P_flag 149 = .ok (.goto 4, 3) := by decide +kernel
theorem d_P_flag_152 : decode b_P_flag 152 = .ok (.iconst 0, 1) := by decide +kernel
theorem d_P_flag_153 : decode b_P_flag 153 = .ok (.ireturn, 1) := by decide +kernel
theorem d_P_flag_154 : decode b_P_flag 154 = .ok (.iload_n 1, 1) := by decide +kernel
theorem d_P_flag_155 : decode b_P_flag 155 = .ok (.invokestatic 53, 3) := by decide +kernel
theorem d_P_flag_158 : decode b_P_flag 158 = .ok (.ireturn, 1) := by decide +kernel
theorem d_P_flag_159 : decode b_P_flag 159 = .ok (.iload_n 1, 1) := by decide +kernel
theorem d_P_flag_160 : decode b_P_flag 160 = .ok (.invokestatic 56, 3) := by decide +kernel
theorem d_P_flag_163 : decode b_P_flag 163 = .ok (.ireturn, 1) := by decide +kernel
theorem d_P_flag_164 : decode b_P_flag 164 = .ok (.iconst 0, 1) := by decide +kernel
theorem d_P_flag_165 : decode b_P_flag 165 = .ok (.ireturn, 1) := by decide +kernel
theorem d_P_number_0 : decode b_P_number 0 = .ok (.iload_n 1, 1) := by decide +kernel
theorem d_P_number_1 : decode b_P_number 1 = .ok (.invokestatic 35, 3) := by decide +kernel
theorem d_P_number_4 : decode b_P_number 4 = .ok (.ifCond .ne 5, 3) := by decide +kernel
theorem d_P_number_7 : decode b_P_number 7 = .ok (.iconst (-1), 1) := by decide +kernel
theorem d_P_number_8 : decode b_P_number 8 = .ok (.ireturn, 1) := by decide +kernel
theorem d_P_number_9 : decode b_P_number 9 = .ok (.iload_n 2, 1) := by decide +kernel
theorem d_P_number_10 : decode b_P_number 10 = .ok (.tableswitch 109 0 7 #[46, 51, 56, 68, 81, 94, 99, 104], 46) := by decide +kernel
theorem d_P_number_56 : decode b_P_number 56 = .ok (.iload_n 1, 1) := by decide +kernel
theorem d_P_number_57 : decode b_P_number 57 = .ok (.invokestatic 59, 3) := by decide +kernel
theorem d_P_number_60 : decode b_P_number 60 = .ok (.ireturn, 1) := by decide +kernel
theorem d_P_number_61 : decode b_P_number 61 = .ok (.iload_n 1, 1) := by decide +kernel
theorem d_P_number_62 : decode b_P_number 62 = .ok (.invokestatic 62, 3) := by decide +kernel
theorem d_P_number_65 : decode b_P_number 65 = .ok (.ireturn, 1) := by decide +kernel
theorem d_P_number_66 : decode b_P_number 66 = .ok (.iload_n 1, 1) := by decide +kernel
theorem d_P_number_67 : decode b_P_number 67 = .ok (.bipush 21, 2) := by decide +kernel
theorem d_P_number_69 : decode b_P_number 69 = .ok (.if_icmp .ne 7, 3) := by decide +kernel
theorem d_P_number_72 : decode b_P_number 72 = .ok (.iconst 1, 1) := by decide +kernel
theorem d_P_number_73 : decode b_P_number 73 = .ok (.goto 4, 3) := by decide +kernel
theorem d_P_number_76 : decode b_P_number 76 = .ok (.iconst 0, 1) := by decide +kernel
theorem d_P_number_77 : decode b_P_number 77 = .ok (.ireturn, 1) := by decide +kernel
theorem d_P_number_78 : decode b_P_number 78 = .ok (.iload_n 1, 1) := by decide +kernel
theorem d_P_number_79 : decode b_P_number 79 = .ok (.bipush 16, 2) := by decide +kernel
theorem d_P_number_81 : decode b_P_number 81 = .ok (.if_icmp .ne 7, 3) := by decide +kernel
theorem d_P_number_84 : decode b_P_number 84 = .ok (.iconst 2, 1) := by decide +kernel
theorem d_P_number_85 : decode b_P_number 85 = .ok (.goto 5, 3) := by decide +kernel
theorem d_P_number_88 : decode b_P_number 88 = .ok (.bipush (-2), 2) := by decide +kernel
theorem d_P_number_90 : decode b_P_number 90 = .ok (.ireturn, 1) := by decide +kernel
theorem d_P_number_91 : decode b_P_number 91 = .ok (.iload_n 1, 1) := by decide +kernel
theorem d_P_number_92 : decode b_P_number 92 = .ok (.bipush 14, 2) := by decide +kernel
theorem d_P_number_94 : decode b_P_number 94 = .ok (.if_icmp .ne 7, 3) := by decide +kernel
theorem d_P_number_97 : decode b_P_number 97 = .ok (.iconst 1, 1) := by decide +kernel
theorem d_P_number_98 : decode b_P_number 98 = .ok (.goto 5, 3) := by decide +kernel
theorem d_P_number_101 : decode b_P_number 101 = .ok (.bipush (-2), 2) := by decide +kernel
theorem d_P_number_103 : decode b_P_number 103 = .ok (.ireturn, 1) := by decide +kernel
theorem d_P_number_104 : decode b_P_number 104 = .ok (.iload_n 1, 1) := by decide +kernel
theorem d_P_number_105 : decode b_P_number 105 = .ok (.invokestatic 65, 3) := by decide +kernel
theorem d_P_number_108 : decode b_P_number 108 = .ok (.ireturn, 1) := by decide +kernel
theorem d_P_number_109 : decode b_P_number 109 = .ok (.iload_n 1, 1) := by decide +kernel
theorem d_P_number_110 : decode b_P_number 110 = .ok (.invokestatic 68, 3) := by decide +kernel
theorem d_P_number_113 : decode b_P_number 113 = .ok (.ireturn, 1) := by decide +kernel
theorem d_P_number_114 : decode b_P_number 114 = .ok (.iload_n 1, 1) := by decide +kernel
theorem d_P_number_115 : decode b_P_number 115 = .ok (.invokestatic 71, 3) := by decide +kernel
theorem d_P_number_118 : decode b_P_number 118 = .ok (.ireturn, 1) := by decide +kernel
theorem d_P_number_119 : decode b_P_number 119 = .ok (.iconst (-1), 1) := by decide +kernel
theorem d_P_number_120 : decode b_P_number 120 = .ok (.ireturn, 1) := by decide +kernel
theorem d_P_related_0 : decode b_P_related 0 = .ok (.iload_n 1, 1) := by decide +kernel
theorem d_P_related_1 : decode b_P_related 1 = .ok (.invokestatic 35, 3) := by decide +kernel
theorem d_P_related_4 : decode b_P_related 4 = .ok (.ifCond .ne 5, 3) := by decide +kernel
theorem d_P_related_7 : decode b_P_related 7 = .ok (.iconst (-1), 1) := by decide +kernel
theorem d_P_related_8 : decode b_P_related 8 = .ok (.ireturn, 1) := by decide +kernel
theorem d_P_related_9 : decode b_P_related 9 = .ok (.iload_n 2, 1) := by decide +kernel
theorem d_P_related_10 : decode b_P_related 10 = .ok (.tableswitch 102 0 5 #[38, 43, 60, 65, 82, 96], 38) := by decide +kernel
theorem d_P_related_48 : decode b_P_related 48 = .ok (.iload_n 1, 1) := by decide +kernel
theorem d_P_related_49 : decode b_P_related 49 = .ok (.invokestatic 74, 3) := by decide +kernel
theorem d_P_related_52 : decode b_P_related 52 = .ok (.ireturn, 1) := by decide +kernel
theorem d_P_related_53 : decode b_P_related 53 = .ok (.iload_n 1, 1) := by decide +kernel
theorem d_P_related_54 : decode b_P_related 54 = .ok (.invokestatic 41, 3) := by decide +kernel
theorem d_P_related_57 : decode b_P_related 57 = .ok (.ifCond .eq 10, 3) := by decide +kernel
theorem d_P_related_60 : decode b_P_related 60 = .ok (.iload_n 1, 1) := by decide +kernel
theorem d_P_related_61 : decode b_P_related 61 = .ok (.bipush 40, 2) := by decide +kernel
theorem d_P_related_63 : decode b_P_related 63 = .ok (.isub, 1) := by decide +kernel
theorem d_P_related_64 : decode b_P_related 64 = .ok (.goto 5, 3) := by decide +kernel
theorem d_P_related_67 : decode b_P_related 67 = .ok (.bipush (-2), 2) := by decide +kernel
theorem d_P_related_69 : decode b_P_related 69 = .ok (.ireturn, 1) := by decide +kernel
theorem d_P_related_70 : decode b_P_related 70 = .ok (.iload_n 1, 1) := by decide +kernel
theorem d_P_related_71 : decode b_P_related 71 = .ok (.invokestatic 77, 3) := by decide +kernel
theorem d_P_related_74 : decode b_P_related 74 = .ok (.ireturn, 1) := by decide +kernel
theorem d_P_related_75 : decode b_P_related 75 = .ok (.iload_n 1, 1) := by decide +kernel
theorem d_P_related_76 : decode b_P_related 76 = .ok (.invokestatic 53, 3) := by decide +kernel
theorem d_P_related_79 : decode b_P_related 79 = .ok (.ifCond .eq 10, 3) := by decide +kernel
theorem d_P_related_82 : decode b_P_related 82 = .ok (.iload_n 1, 1) := by decide +kernel
theorem d_P_related_83 : decode b_P_related 83 = .ok (.invokestatic 77, 3) := by decide +kernel
theorem d_P_related_86 : decode b_P_related 86 = .ok (.goto 5, 3) := by decide +kernel
theorem d_P_related_89 : decode b_P_related 89 = .ok (.bipush (-2), 2) := by decide +kernel
theorem d_P_related_91 : decode b_P_related 91 = .ok (.ireturn, 1) := by decide +kernel
theorem d_P_related_92 : decode b_P_related 92 = .ok (.iload_n 1, 1) := by decide +kernel
theorem d_P_related_93 : decode b_P_related 93 = .ok (.invokestatic 80, 3) := by decide +kernel
theorem d_P_related_96 : decode b_P_related 96 = .ok (.ifCond .eq 8, 3) := by decide +kernel
theorem d_P_related_99 : decode b_P_related 99 = .ok (.bipush 11, 2) := by decide +kernel
theorem d_P_related_101 : decode b_P_related 101 = .ok (.goto 4, 3) := by decide +kernel
theorem d_P_related_104 : decode b_P_related 104 = .ok (.iload_n 1, 1) := by decide +kernel
theorem d_P_related_105 : decode b_P_related 105 = .ok (.ireturn, 1) := by decide +kernel
theorem d_P_related_106 : decode b_P_related 106 = .ok (.iload_n 1, 1) := by decide +kernel
theorem d_P_related_107 : decode b_P_related 107 = .ok (.iconst 1, 1) := by decide +kernel
theorem d_P_related_108 : decode b_P_related 108 = .ok (.invokestatic 83, 3) := by decide +kernel
theorem d_P_related_111 : decode b_P_related 111 = .ok (.ireturn, 1) := by decide +kernel
theorem d_P_related_112 : decode b_P_related 112 = .ok (.iconst (-1), 1) := by decide +kernel
theorem d_P_related_113 : decode b_P_related 113 = .ok (.ireturn, 1) := by decide +kernel
theorem d_P_interfaceOf_0 : decode b_P_interfaceOf 0 = .ok (.iload_n 1, 1) := by decide +kernel
theorem d_P_interfaceOf_1 : decode b_P_interfaceOf 1 = .ok (.invokestatic 35, 3) := by decide +kernel
theorem d_P_interfaceOf_4 : decode b_P_interfaceOf 4 = .ok (.ifCond .eq 11, 3) := by decide +kernel
theorem d_P_interfaceOf_7 : decode b_P_interfaceOf 7 = .ok (.iload_n 1, 1) := by decide +kernel
theorem d_P_interfaceOf_8 : decode b_P_interfaceOf 8 = .ok (.iload_n 2, 1) := by decide +kernel
theorem d_P_interfaceOf_9 : decode b_P_interfaceOf 9 = .ok (.invokestatic 86, 3) := by decide +kernel
theorem d_P_interfaceOf_12 : decode b_P_interfaceOf 12 = .ok (.goto 4, 3) := by decide +kernel
theorem d_P_interfaceOf_15 : decode b_P_interfaceOf 15 = .ok (.iconst (-1), 1) := by decide +kernel
theorem d_P_interfaceOf_16 : decode b_P_interfaceOf 16 = .ok (.ireturn, 1) := by decide +kernel
theorem d_P_goesInto_0 : decode b_P_goesInto 0 = .ok (.iload_n 1, 1) := by decide +kernel
theorem d_P_goesInto_1 : decode b_P_goesInto 1 = .ok (.invokestatic 35, 3) := by decide +kernel
theorem d_P_goesInto_4 : decode b_P_goesInto 4 = .ok (.ifCond .eq 22, 3) := by decide +kernel
theorem d_P_goesInto_7 : decode b_P_goesInto 7 = .ok (.iload_n 2, 1) := by decide +kernel
theorem d_P_goesInto_8 : decode b_P_goesInto 8 = .ok (.invokestatic 35, 3) := by decide +kernel
theorem d_P_goesInto_11 : decode b_P_goesInto 11 = .ok (.ifCond .eq 15, 3) := by decide +kernel
theorem d_P_goesInto_14 : decode b_P_goesInto 14 = .ok (.iload_n 1, 1) := by decide +kernel
theorem d_P_goesInto_15 : decode b_P_goesInto 15 = .ok (.iload_n 2, 1) := by decide +kernel
theorem d_P_goesInto_16 : decode b_P_goesInto 16 = .ok (.invokestatic 89, 3) := by decide +kernel
theorem d_P_goesInto_19 : decode b_P_goesInto 19 = .ok (.ifCond .eq 7, 3) := by decide +kernel
theorem d_P_goesInto_22 : decode b_P_goesInto 22 = .ok (.iconst 1, 1) := by decide +kernel
theorem d_P_goesInto_23 : decode b_P_goesInto 23 = .ok (.goto 4, 3) := by decide +kernel
theorem d_P_goesInto_26 : decode b_P_goesInto 26 = .ok (.iconst 0, 1) := by decide +kernel
theorem d_P_goesInto_27 : decode b_P_goesInto 27 = .ok (.ireturn, 1) := by decide +kernel
theorem d_P_asSubclass_0 : decode b_P_asSubclass 0 = .ok (.iload_n 1, 1) := by decide +kernel
theorem d_P_asSubclass_1 : decode b_P_asSubclass 1 = .ok (.invokestatic 35, 3) := by decide +kernel
theorem d_P_asSubclass_4 : decode b_P_asSubclass 4 = .ok (.ifCond .eq 10, 3) := by decide +kernel
theorem d_P_asSubclass_7 : decode b_P_asSubclass 7 = .ok (.iload_n 2, 1) := by decide +kernel
theorem d_P_asSubclass_8 : decode b_P_asSubclass 8 = .ok (.invokestatic 35, 3) := by decide +kernel
theorem d_P_asSubclass_11 : decode b_P_asSubclass 11 = .ok (.ifCond .ne 5, 3) := by decide +kernel
theorem d_P_asSubclass_14 : decode b_P_asSubclass 14 = .ok (.iconst (-1), 1) := by decide +kernel
theorem d_P_asSubclass_15 : decode b_P_asSubclass 15 = .ok (.ireturn, 1) := by decide +kernel
theorem d_P_asSubclass_16 : decode b_P_asSubclass 16 = .ok (.iload_n 1, 1) := by decide +kernel
theorem d_P_asSubclass_17 : decode b_P_asSubclass 17 = .ok (.iload_n 2, 1) := by decide +kernel
theorem d_P_asSubclass_18 : decode b_P_asSubclass 18 = .ok (.invokestatic 89, 3) := by decide +kernel
theorem d_P_asSubclass_21 : decode b_P_asSubclass 21 = .ok (.ifCond .eq 7, 3) := by decide +kernel
theorem d_P_asSubclass_24 : decode b_P_asSubclass 24 = .ok (.iload_n 1, 1) := by decide +kernel
theorem d_P_asSubclass_25 : decode b_P_asSubclass 25 = .ok (.goto 5, 3) := by decide +kernel
theorem d_P_asSubclass_28 : decode b_P_asSubclass 28 = .ok (.bipush (-5), 2) := by decide +kernel
theorem d_P_asSubclass_30 : decode b_P_asSubclass 30 = .ok (.ireturn, 1) := by decide +kernel
theorem d_P_nestmates_0 : decode b_P_nestmates 0 = .ok (.iload_n 1, 1) := by decide +kernel
theorem d_P_nestmates_1 : decode b_P_nestmates 1 = .ok (.invokestatic 35, 3) := by decide +kernel
theorem d_P_nestmates_4 : decode b_P_nestmates 4 = .ok (.ifCond .eq 10, 3) := by decide +kernel
theorem d_P_nestmates_7 : decode b_P_nestmates 7 = .ok (.iload_n 2, 1) := by decide +kernel
theorem d_P_nestmates_8 : decode b_P_nestmates 8 = .ok (.invokestatic 35, 3) := by decide +kernel
theorem d_P_nestmates_11 : decode b_P_nestmates 11 = .ok (.ifCond .ne 5, 3) := by decide +kernel
theorem d_P_nestmates_14 : decode b_P_nestmates 14 = .ok (.iconst 0, 1) := by decide +kernel
theorem d_P_nestmates_15 : decode b_P_nestmates 15 = .ok (.ireturn, 1) := by decide +kernel
theorem d_P_nestmates_16 : decode b_P_nestmates 16 = .ok (.iload_n 1, 1) := by decide +kernel
theorem d_P_nestmates_17 : decode b_P_nestmates 17 = .ok (.iload_n 2, 1) := by decide +kernel
theorem d_P_nestmates_18 : decode b_P_nestmates 18 = .ok (.if_icmp .eq 17, 3) := by decide +kernel
theorem d_P_nestmates_21 : decode b_P_nestmates 21 = .ok (.iload_n 1, 1) := by decide +kernel
theorem d_P_nestmates_22 : decode b_P_nestmates 22 = .ok (.invokestatic 80, 3) := by decide +kernel
theorem d_P_nestmates_25 : decode b_P_nestmates 25 = .ok (.ifCond .eq 14, 3) := by decide +kernel
theorem d_P_nestmates_28 : decode b_P_nestmates 28 = .ok (.iload_n 2, 1) := by decide +kernel
theorem d_P_nestmates_29 : decode b_P_nestmates 29 = .ok (.invokestatic 80, 3) := by decide +kernel
theorem d_P_nestmates_32 : decode b_P_nestmates 32 = .ok (.ifCond .eq 7, 3) := by decide +kernel
theorem d_P_nestmates_35 : decode b_P_nestmates 35 = .ok (.iconst 1, 1) := by decide +kernel
theorem d_P_nestmates_36 : decode b_P_nestmates 36 = .ok (.goto 4, 3) := by decide +kernel
theorem d_P_nestmates_39 : decode b_P_nestmates 39 = .ok (.iconst 0, 1) := by decide +kernel
theorem d_P_nestmates_40 : decode b_P_nestmates 40 = .ok (.ireturn, 1) := by decide +kernel
theorem d_P_type_0 : decode b_P_type 0 = .ok (.aload_n 0, 1) := by decide +kernel
theorem d_P_type_1 : decode b_P_type 1 = .ok (.getfield 23, 3) := by decide +kernel
theorem d_P_type_4 : decode b_P_type 4 = .ok (.iload_n 1, 1) := by decide +kernel
theorem d_P_type_5 : decode b_P_type 5 = .ok (.invokevirtual 93, 3) := by decide +kernel
theorem d_P_type_8 : decode b_P_type 8 = .ok (.ireturn, 1) := by decide +kernel
theorem d_P_types_0 : decode b_P_types 0 = .ok (.bipush 56, 2) := by decide +kernel
theorem d_P_types_2 : decode b_P_types 2 = .ok (.istore_n 3, 1) := by decide +kernel
theorem d_P_types_3 : decode b_P_types 3 = .ok (.iload_n 3, 1) := by decide +kernel
theorem d_P_types_4 : decode b_P_types 4 = .ok (.ifCond .lt 47, 3) := by decide +kernel
theorem d_P_types_7 : decode b_P_types 7 = .ok (.lload_n 1, 1) := by decide +kernel
theorem d_P_types_8 : decode b_P_types 8 = .ok (.iload_n 3, 1) := by decide +kernel
theorem d_P_types_9 : decode b_P_types 9 = .ok (.lushr, 1) := by decide +kernel
theorem d_P_types_10 : decode b_P_types 10 = .ok (.l2i, 1) := by decide +kernel
theorem d_P_types_11 : decode b_P_types 11 = .ok (.sipush 255, 3) := by decide +kernel
theorem d_P_types_14 : decode b_P_types 14 = .ok (.iand, 1) := by decide +kernel
theorem d_P_types_15 : decode b_P_types 15 = .ok (.istore 4, 2) := by decide +kernel
theorem d_P_types_17 : decode b_P_types 17 = .ok (.iload 4, 2) := by decide +kernel
theorem d_P_types_19 : decode b_P_types 19 = .ok (.ifCond .ne 7, 3) := by decide +kernel
theorem d_P_types_22 : decode b_P_types 22 = .ok (.iconst 0, 1) := by decide +kernel
theorem d_P_types_23 : decode b_P_types 23 = .ok (.goto 12, 3) := by decide +kernel
theorem d_P_types_26 : decode b_P_types 26 = .ok (.aload_n 0, 1) := by decide +kernel
theorem d_P_types_27 : decode b_P_types 27 = .ok (.getfield 23, 3) := by decide +kernel
theorem d_P_types_30 : decode b_P_types 30 = .ok (.iload 4, 2) := by decide +kernel
theorem d_P_types_32 : decode b_P_types 32 = .ok (.invokevirtual 93, 3) := by decide +kernel
theorem d_P_types_35 : decode b_P_types 35 = .ok (.istore 5, 2) := by decide +kernel
theorem d_P_types_37 : decode b_P_types 37 = .ok (.iload 5, 2) := by decide +kernel
theorem d_P_types_39 : decode b_P_types 39 = .ok (.ifCond .ge 6, 3) := by decide +kernel
theorem d_P_types_42 : decode b_P_types 42 = .ok (.iload 5, 2) := by decide +kernel
theorem d_P_types_44 : decode b_P_types 44 = .ok (.ireturn, 1) := by decide +kernel
theorem d_P_types_45 : decode b_P_types 45 = .ok (.iinc 3 (-8), 3) := by decide +kernel
theorem d_P_types_48 : decode b_P_types 48 = .ok (.goto (-45), 3) := by decide +kernel
theorem d_P_types_51 : decode b_P_types 51 = .ok (.aload_n 0, 1) := by decide +kernel
theorem d_P_types_52 : decode b_P_types 52 = .ok (.getfield 23, 3) := by decide +kernel
theorem d_P_types_55 : decode b_P_types 55 = .ok (.invokevirtual 96, 3) := by decide +kernel
theorem d_P_types_58 : decode b_P_types 58 = .ok (.ireturn, 1) := by decide +kernel
theorem d_P_find_0 : decode b_P_find 0 = .ok (.aload_n 0, 1) := by decide +kernel
theorem d_P_find_1 : decode b_P_find 1 = .ok (.getfield 23, 3) := by decide +kernel
theorem d_P_find_4 : decode b_P_find 4 = .ok (.invokevirtual 100, 3) := by decide +kernel
theorem d_P_find_7 : decode b_P_find 7 = .ok (.istore_n 1, 1) := by decide +kernel
theorem d_P_find_8 : decode b_P_find 8 = .ok (.aload_n 0, 1) := by decide +kernel
theorem d_P_find_9 : decode b_P_find 9 = .ok (.getfield 23, 3) := by decide +kernel
theorem d_P_find_12 : decode b_P_find 12 = .ok (.invokevirtual 103, 3) := by decide +kernel
theorem d_P_find_15 : decode b_P_find 15 = .ok (.iload_n 1, 1) := by decide +kernel
theorem d_P_find_16 : decode b_P_find 16 = .ok (.ireturn, 1) := by decide +kernel
theorem d_P_put_0 : decode b_P_put 0 = .ok (.iload_n 1, 1) := by decide +kernel
theorem d_P_put_1 : decode b_P_put 1 = .ok (.invokestatic 106, 3) := by decide +kernel
theorem d_P_put_4 : decode b_P_put 4 = .ok (.ifCond .eq 15, 3) := by decide +kernel
theorem d_P_put_7 : decode b_P_put 7 = .ok (.iload_n 2, 1) := by decide +kernel
theorem d_P_put_8 : decode b_P_put 8 = .ok (.iconst (-1), 1) := by decide +kernel
theorem d_P_put_9 : decode b_P_put 9 = .ok (.if_icmp .eq 12, 3) := by decide +kernel
theorem d_P_put_12 : decode b_P_put 12 = .ok (.iload_n 2, 1) := by decide +kernel
theorem d_P_put_13 : decode b_P_put 13 = .ok (.invokestatic 35, 3) := by decide +kernel
theorem d_P_put_16 : decode b_P_put 16 = .ok (.ifCond .ne 5, 3) := by decide +kernel
theorem d_P_put_19 : decode b_P_put 19 = .ok (.iconst (-1), 1) := by decide +kernel
theorem d_P_put_20 : decode b_P_put 20 = .ok (.ireturn, 1) := by decide +kernel
theorem d_P_put_21 : decode b_P_put 21 = .ok (.iload_n 2, 1) := by decide +kernel
theorem d_P_put_22 : decode b_P_put 22 = .ok (.iconst (-1), 1) := by decide +kernel
theorem d_P_put_23 : decode b_P_put 23 = .ok (.if_icmp .ne 13, 3) := by decide +kernel
theorem d_P_put_26 : decode b_P_put 26 = .ok (.aload_n 0, 1) := by decide +kernel
theorem d_P_put_27 : decode b_P_put 27 = .ok (.getfield 9, 3) := by decide +kernel
theorem d_P_put_30 : decode b_P_put 30 = .ok (.iload_n 1, 1) := by decide +kernel
theorem d_P_put_31 : decode b_P_put 31 = .ok (.bipush (-2), 2) := by decide +kernel
theorem d_P_put_33 : decode b_P_put 33 = .ok (.iastore, 1) := by decide +kernel
theorem d_P_put_34 : decode b_P_put 34 = .ok (.iconst 0, 1) := by decide +kernel
theorem d_P_put_35 : decode b_P_put 35 = .ok (.ireturn, 1) := by decide +kernel
theorem d_P_put_36 : decode b_P_put 36 = .ok (.iload_n 2, 1) := by decide +kernel
theorem d_P_put_37 : decode b_P_put 37 = .ok (.invokestatic 109, 3) := by decide +kernel
theorem d_P_put_40 : decode b_P_put 40 = .ok (.ifCond .ne 6, 3) := by decide +kernel
theorem d_P_put_43 : decode b_P_put 43 = .ok (.bipush (-2), 2) := by decide +kernel
theorem d_P_put_45 : decode b_P_put 45 = .ok (.ireturn, 1) := by decide +kernel
theorem d_P_put_46 : decode b_P_put 46 = .ok (.aload_n 0, 1) := by decide +kernel
theorem d_P_put_47 : decode b_P_put 47 = .ok (.getfield 9, 3) := by decide +kernel
theorem d_P_put_50 : decode b_P_put 50 = .ok (.iload_n 1, 1) := by decide +kernel
theorem d_P_put_51 : decode b_P_put 51 = .ok (.iload_n 2, 1) := by decide +kernel
theorem d_P_put_52 : decode b_P_put 52 = .ok (.iastore, 1) := by decide +kernel
theorem d_P_put_53 : decode b_P_put 53 = .ok (.iconst 0, 1) := by decide +kernel
theorem d_P_put_54 : decode b_P_put 54 = .ok (.ireturn, 1) := by decide +kernel
theorem d_P_isSlot_0 : decode b_P_isSlot 0 = .ok (.iload_n 0, 1) := by decide +kernel
theorem d_P_isSlot_1 : decode b_P_isSlot 1 = .ok (.ifCond .lt 13, 3) := by decide +kernel
theorem d_P_isSlot_4 : decode b_P_isSlot 4 = .ok (.iload_n 0, 1) := by decide +kernel
theorem d_P_isSlot_5 : decode b_P_isSlot 5 = .ok (.bipush 8, 2) := by decide +kernel
theorem d_P_isSlot_7 : decode b_P_isSlot 7 = .ok (.if_icmp .ge 7, 3) := by decide +kernel
theorem d_P_isSlot_10 : decode b_P_isSlot 10 = .ok (.iconst 1, 1) := by decide +kernel
theorem d_P_isSlot_11 : decode b_P_isSlot 11 = .ok (.goto 4, 3) := by decide +kernel
theorem d_P_isSlot_14 : decode b_P_isSlot 14 = .ok (.iconst 0, 1) := by decide +kernel
theorem d_P_isSlot_15 : decode b_P_isSlot 15 = .ok (.ireturn, 1) := by decide +kernel
theorem d_P_typeOf_0 : decode b_P_typeOf 0 = .ok (.iload_n 1, 1) := by decide +kernel
theorem d_P_typeOf_1 : decode b_P_typeOf 1 = .ok (.invokestatic 106, 3) := by decide +kernel
theorem d_P_typeOf_4 : decode b_P_typeOf 4 = .ok (.ifCond .eq 12, 3) := by decide +kernel
theorem d_P_typeOf_7 : decode b_P_typeOf 7 = .ok (.aload_n 0, 1) := by decide +kernel
theorem d_P_typeOf_8 : decode b_P_typeOf 8 = .ok (.getfield 9, 3) := by decide +kernel
theorem d_P_typeOf_11 : decode b_P_typeOf 11 = .ok (.iload_n 1, 1) := by decide +kernel
theorem d_P_typeOf_12 : decode b_P_typeOf 12 = .ok (.iaload, 1) := by decide +kernel
theorem d_P_typeOf_13 : decode b_P_typeOf 13 = .ok (.goto 4, 3) := by decide +kernel
theorem d_P_typeOf_16 : decode b_P_typeOf 16 = .ok (.iconst (-1), 1) := by decide +kernel
theorem d_P_typeOf_17 : decode b_P_typeOf 17 = .ok (.ireturn, 1) := by decide +kernel
theorem d_P_isOf_0 : decode b_P_isOf 0 = .ok (.iload_n 1, 1) := by decide +kernel
theorem d_P_isOf_1 : decode b_P_isOf 1 = .ok (.invokestatic 106, 3) := by decide +kernel
theorem d_P_isOf_4 : decode b_P_isOf 4 = .ok (.ifCond .eq 21, 3) := by decide +kernel
theorem d_P_isOf_7 : decode b_P_isOf 7 = .ok (.iload_n 2, 1) := by decide +kernel
theorem d_P_isOf_8 : decode b_P_isOf 8 = .ok (.invokestatic 35, 3) := by decide +kernel
theorem d_P_isOf_11 : decode b_P_isOf 11 = .ok (.ifCond .eq 14, 3) := by decide +kernel
theorem d_P_isOf_14 : decode b_P_isOf 14 = .ok (.aload_n 0, 1) := by decide +kernel
theorem d_P_isOf_15 : decode b_P_isOf 15 = .ok (.getfield 9, 3) := by decide +kernel
theorem d_P_isOf_18 : decode b_P_isOf 18 = .ok (.iload_n 1, 1) := by decide +kernel
theorem d_P_isOf_19 : decode b_P_isOf 19 = .ok (.iaload, 1) := by decide +kernel
theorem d_P_isOf_20 : decode b_P_isOf 20 = .ok (.bipush (-2), 2) := by decide +kernel
theorem d_P_isOf_22 : decode b_P_isOf 22 = .ok (.if_icmp .ne 5, 3) := by decide +kernel
theorem d_P_isOf_25 : decode b_P_isOf 25 = .ok (.iconst 0, 1) := by decide +kernel
theorem d_P_isOf_26 : decode b_P_isOf 26 = .ok (.ireturn, 1) := by decide +kernel
theorem d_P_isOf_27 : decode b_P_isOf 27 = .ok (.aload_n 0, 1) := by decide +kernel
theorem d_P_isOf_28 : decode b_P_isOf 28 = .ok (.getfield 9, 3) := by decide +kernel
theorem d_P_isOf_31 : decode b_P_isOf 31 = .ok (.iload_n 1, 1) := by decide +kernel
theorem d_P_isOf_32 : decode b_P_isOf 32 = .ok (.iaload, 1) := by decide +kernel
theorem d_P_isOf_33 : decode b_P_isOf 33 = .ok (.iload_n 2, 1) := by decide +kernel
theorem d_P_isOf_34 : decode b_P_isOf 34 = .ok (.invokestatic 89, 3) := by decide +kernel
theorem d_P_isOf_37 : decode b_P_isOf 37 = .ok (.ireturn, 1) := by decide +kernel
theorem d_P_cast_0 : decode b_P_cast 0 = .ok (.iload_n 1, 1) := by decide +kernel
theorem d_P_cast_1 : decode b_P_cast 1 = .ok (.invokestatic 106, 3) := by decide +kernel
theorem d_P_cast_4 : decode b_P_cast 4 = .ok (.ifCond .eq 10, 3) := by decide +kernel
theorem d_P_cast_7 : decode b_P_cast 7 = .ok (.iload_n 2, 1) := by decide +kernel
theorem d_P_cast_8 : decode b_P_cast 8 = .ok (.invokestatic 35, 3) := by decide +kernel
theorem d_P_cast_11 : decode b_P_cast 11 = .ok (.ifCond .ne 5, 3) := by decide +kernel
theorem d_P_cast_14 : decode b_P_cast 14 = .ok (.iconst (-1), 1) := by decide +kernel
theorem d_P_cast_15 : decode b_P_cast 15 = .ok (.ireturn, 1) := by decide +kernel
theorem d_P_cast_16 : decode b_P_cast 16 = .ok (.aload_n 0, 1) := by decide +kernel
theorem d_P_cast_17 : decode b_P_cast 17 = .ok (.getfield 9, 3) := by decide +kernel
theorem d_P_cast_20 : decode b_P_cast 20 = .ok (.iload_n 1, 1) := by decide +kernel
theorem d_P_cast_21 : decode b_P_cast 21 = .ok (.iaload, 1) := by decide +kernel
theorem d_P_cast_22 : decode b_P_cast 22 = .ok (.bipush (-2), 2) := by decide +kernel
theorem d_P_cast_24 : decode b_P_cast 24 = .ok (.if_icmp .eq 16, 3) := by decide +kernel
theorem d_P_cast_27 : decode b_P_cast 27 = .ok (.aload_n 0, 1) := by decide +kernel
theorem d_P_cast_28 : decode b_P_cast 28 = .ok (.getfield 9, 3) := by decide +kernel
theorem d_P_cast_31 : decode b_P_cast 31 = .ok (.iload_n 1, 1) := by decide +kernel
theorem d_P_cast_32 : decode b_P_cast 32 = .ok (.iaload, 1) := by decide +kernel
theorem d_P_cast_33 : decode b_P_cast 33 = .ok (.iload_n 2, 1) := by decide +kernel
theorem d_P_cast_34 : decode b_P_cast 34 = .ok (.invokestatic 89, 3) := by decide +kernel
theorem d_P_cast_37 : decode b_P_cast 37 = .ok (.ifCond .eq 7, 3) := by decide +kernel
theorem d_P_cast_40 : decode b_P_cast 40 = .ok (.iconst 0, 1) := by decide +kernel
theorem d_P_cast_41 : decode b_P_cast 41 = .ok (.goto 5, 3) := by decide +kernel
theorem d_P_cast_44 : decode b_P_cast 44 = .ok (.bipush (-5), 2) := by decide +kernel
theorem d_P_cast_46 : decode b_P_cast 46 = .ok (.ireturn, 1) := by decide +kernel
theorem d_P_light_0 : decode b_P_light 0 = .ok (.iload_n 1, 1) := by decide +kernel
theorem d_P_light_1 : decode b_P_light 1 = .ok (.invokestatic 106, 3) := by decide +kernel
theorem d_P_light_4 : decode b_P_light 4 = .ok (.ifCond .ne 5, 3) := by decide +kernel
theorem d_P_light_7 : decode b_P_light 7 = .ok (.iconst (-1), 1) := by decide +kernel
theorem d_P_light_8 : decode b_P_light 8 = .ok (.ireturn, 1) := by decide +kernel
theorem d_P_light_9 : decode b_P_light 9 = .ok (.aload_n 0, 1) := by decide +kernel
theorem d_P_light_10 : decode b_P_light 10 = .ok (.getfield 9, 3) := by decide +kernel
theorem d_P_light_13 : decode b_P_light 13 = .ok (.iload_n 1, 1) := by decide +kernel
theorem d_P_light_14 : decode b_P_light 14 = .ok (.iaload, 1) := by decide +kernel
theorem d_P_light_15 : decode b_P_light 15 = .ok (.lookupswitch 52 #[(-2, 41), (14, 49), (16, 44), (17, 46)], 41) := by decide +kernel
theorem d_P_light_56 : decode b_P_light 56 = .ok (.bipush (-2), 2) := by decide +kernel
theorem d_P_light_58 : decode b_P_light 58 = .ok (.ireturn, 1) := by decide +kernel
theorem d_P_light_59 : decode b_P_light 59 = .ok (.iconst 1, 1) := by decide +kernel
theorem d_P_light_60 : decode b_P_light 60 = .ok (.ireturn, 1) := by decide +kernel
theorem d_P_light_61 : decode b_P_light 61 = .ok (.bipush 12, 2) := by decide +kernel
theorem d_P_light_63 : decode b_P_light 63 = .ok (.ireturn, 1) := by decide +kernel
theorem d_P_light_64 : decode b_P_light 64 = .ok (.bipush 114, 2) := by decide +kernel
theorem d_P_light_66 : decode b_P_light 66 = .ok (.ireturn, 1) := by decide +kernel
theorem d_P_light_67 : decode b_P_light 67 = .ok (.bipush (-3), 2) := by decide +kernel
theorem d_P_light_69 : decode b_P_light 69 = .ok (.ireturn, 1) := by decide +kernel
theorem d_P_alike_0 : decode b_P_alike 0 = .ok (.iload_n 1, 1) := by decide +kernel
theorem d_P_alike_1 : decode b_P_alike 1 = .ok (.invokestatic 106, 3) := by decide +kernel
theorem d_P_alike_4 : decode b_P_alike 4 = .ok (.ifCond .eq 10, 3) := by decide +kernel
theorem d_P_alike_7 : decode b_P_alike 7 = .ok (.iload_n 2, 1) := by decide +kernel
theorem d_P_alike_8 : decode b_P_alike 8 = .ok (.invokestatic 106, 3) := by decide +kernel
theorem d_P_alike_11 : decode b_P_alike 11 = .ok (.ifCond .ne 5, 3) := by decide +kernel
theorem d_P_alike_14 : decode b_P_alike 14 = .ok (.iconst 0, 1) := by decide +kernel
theorem d_P_alike_15 : decode b_P_alike 15 = .ok (.ireturn, 1) := by decide +kernel
theorem d_P_alike_16 : decode b_P_alike 16 = .ok (.iload_n 1, 1) := by decide +kernel
theorem d_P_alike_17 : decode b_P_alike 17 = .ok (.iload_n 2, 1) := by decide +kernel
theorem d_P_alike_18 : decode b_P_alike 18 = .ok (.if_icmp .eq 30, 3) := by decide +kernel
theorem d_P_alike_21 : decode b_P_alike 21 = .ok (.aload_n 0, 1) := by decide +kernel
theorem d_P_alike_22 : decode b_P_alike 22 = .ok (.getfield 9, 3) := by decide +kernel
theorem d_P_alike_25 : decode b_P_alike 25 = .ok (.iload_n 1, 1) := by decide +kernel
theorem d_P_alike_26 : decode b_P_alike 26 = .ok (.iaload, 1) := by decide +kernel
theorem d_P_alike_27 : decode b_P_alike 27 = .ok (.aload_n 0, 1) := by decide +kernel
theorem d_P_alike_28 : decode b_P_alike 28 = .ok (.getfield 9, 3) := by decide +kernel
theorem d_P_alike_31 : decode b_P_alike 31 = .ok (.iload_n 2, 1) := by decide +kernel
theorem d_P_alike_32 : decode b_P_alike 32 = .ok (.iaload, 1) := by decide +kernel
theorem d_P_alike_33 : decode b_P_alike 33 = .ok (.if_icmp .ne 19, 3) := by decide +kernel
theorem d_P_alike_36 : decode b_P_alike 36 = .ok (.aload_n 0, 1) := by decide +kernel
theorem d_P_alike_37 : decode b_P_alike 37 = .ok (.getfield 9, 3) := by decide +kernel
theorem d_P_alike_40 : decode b_P_alike 40 = .ok (.iload_n 1, 1) := by decide +kernel
theorem d_P_alike_41 : decode b_P_alike 41 = .ok (.iaload, 1) := by decide +kernel
theorem d_P_alike_42 : decode b_P_alike 42 = .ok (.invokestatic 112, 3) := by decide +kernel
theorem d_P_alike_45 : decode b_P_alike 45 = .ok (.ifCond .eq 7, 3) := by decide +kernel
theorem d_P_alike_48 : decode b_P_alike 48 = .ok (.iconst 1, 1) := by decide +kernel
theorem d_P_alike_49 : decode b_P_alike 49 = .ok (.goto 4, 3) := by decide +kernel
theorem d_P_alike_52 : decode b_P_alike 52 = .ok (.iconst 0, 1) := by decide +kernel
theorem d_P_alike_53 : decode b_P_alike 53 = .ok (.ireturn, 1) := by decide +kernel
theorem d_P_isAlwaysAlike_0 : decode b_P_isAlwaysAlike 0 = .ok (.iload_n 0, 1) := by decide +kernel
theorem d_P_isAlwaysAlike_1 : decode b_P_isAlwaysAlike 1 = .ok (.lookupswitch 69 #[(-2, 67), (11, 67), (14, 67), (16, 67), (17, 67), (23, 67), (24, 67)], 67) := by decide +kernel
theorem d_P_isAlwaysAlike_68 : decode b_P_isAlwaysAlike 68 = .ok (.iconst 1, 1) := by decide +kernel
theorem d_P_isAlwaysAlike_69 : decode b_P_isAlwaysAlike 69 = .ok (.ireturn, 1) := by decide +kernel
theorem d_P_isAlwaysAlike_70 : decode b_P_isAlwaysAlike 70 = .ok (.iconst 0, 1) := by decide +kernel
theorem d_P_isAlwaysAlike_71 : decode b_P_isAlwaysAlike 71 = .ok (.ireturn, 1) := by decide +kernel
end
section
theorem d_M_init_0 : decode b_M_init 0 = .ok (.aload_n 0, 1) := by decide +kernel
theorem d_M_init_1 : decode b_M_init 1 = .ok (.invokespecial 1, 3) := by decide +kernel
theorem d_M_init_4 : decode b_M_init 4 = .ok (.aload_n 0, 1) := by decide +kernel
theorem d_M_init_5 : decode b_M_init 5 = .ok (.sipush 200, 3) := by decide +kernel
theorem d_M_init_8 : decode b_M_init 8 = .ok (.newarray .int, 2) := by decide +kernel
theorem d_M_init_10 : decode b_M_init 10 = .ok (.putfield 7, 3) := by decide +kernel
theorem d_M_init_13 : decode b_M_init 13 = .ok (.aload_n 0, 1) := by decide +kernel
theorem d_M_init_14 : decode b_M_init 14 = .ok (.bipush 40, 2) := by decide +kernel
theorem d_M_init_16 : decode b_M_init 16 = .ok (.newarray .int, 2) := by decide +kernel
theorem d_M_init_18 : decode b_M_init 18 = .ok (.putfield 13, 3) := by decide +kernel
theorem d_M_init_21 : decode b_M_init 21 = .ok (.aload_n 0, 1) := by decide +kernel
theorem d_M_init_22 : decode b_M_init 22 = .ok (.bipush 8, 2) := by decide +kernel
theorem d_M_init_24 : decode b_M_init 24 = .ok (.newarray .int, 2) := by decide +kernel
theorem d_M_init_26 : decode b_M_init 26 = .ok (.putfield 16, 3) := by decide +kernel
theorem d_M_init_29 : decode b_M_init 29 = .ok (.aload_n 0, 1) := by decide +kernel
theorem d_M_init_30 : decode b_M_init 30 = .ok (.bipush 8, 2) := by decide +kernel
theorem d_M_init_32 : decode b_M_init 32 = .ok (.newarray .int, 2) := by decide +kernel
theorem d_M_init_34 : decode b_M_init 34 = .ok (.putfield 19, 3) := by decide +kernel
theorem d_M_init_37 : decode b_M_init 37 = .ok (.aload_n 0, 1) := by decide +kernel
theorem d_M_init_38 : decode b_M_init 38 = .ok (.bipush 100, 2) := by decide +kernel
theorem d_M_init_40 : decode b_M_init 40 = .ok (.putfield 22, 3) := by decide +kernel
theorem d_M_init_43 : decode b_M_init 43 = .ok (.iconst 0, 1) := by decide +kernel
theorem d_M_init_44 : decode b_M_init 44 = .ok (.istore_n 1, 1) := by decide +kernel
theorem d_M_init_45 : decode b_M_init 45 = .ok (.iload_n 1, 1) := by decide +kernel
theorem d_M_init_46 : decode b_M_init 46 = .ok (.bipush 8, 2) := by decide +kernel
theorem d_M_init_48 : decode b_M_init 48 = .ok (.if_icmp .ge 16, 3) := by decide +kernel
theorem d_M_init_51 : decode b_M_init 51 = .ok (.aload_n 0, 1) := by decide +kernel
theorem d_M_init_52 : decode b_M_init 52 = .ok (.getfield 16, 3) := by decide +kernel
theorem d_M_init_55 : decode b_M_init 55 = .ok (.iload_n 1, 1) := by decide +kernel
theorem d_M_init_56 : decode b_M_init 56 = .ok (.iconst (-1), 1) := by decide +kernel
theorem d_M_init_57 : decode b_M_init 57 = .ok (.iastore, 1) := by decide +kernel
theorem d_M_init_58 : decode b_M_init 58 = .ok (.iinc 1 1, 3) := by decide +kernel
theorem d_M_init_61 : decode b_M_init 61 = .ok (.goto (-16), 3) := by decide +kernel
theorem d_M_init_64 : decode b_M_init 64 = .ok (.return_, 1) := by decide +kernel
theorem d_M_letter_0 : decode b_M_letter 0 = .ok (.iload_n 1, 1) := by decide +kernel
theorem d_M_letter_1 : decode b_M_letter 1 = .ok (.invokestatic 167, 3) := by decide +kernel
theorem d_M_letter_4 : decode b_M_letter 4 = .ok (.ifCond .eq 13, 3) := by decide +kernel
theorem d_M_letter_7 : decode b_M_letter 7 = .ok (.iload_n 2, 1) := by decide +kernel
theorem d_M_letter_8 : decode b_M_letter 8 = .ok (.iconst 0, 1) := by decide +kernel
theorem d_M_letter_9 : decode b_M_letter 9 = .ok (.bipush 7, 2) := by decide +kernel
theorem d_M_letter_11 : decode b_M_letter 11 = .ok (.invokestatic 26, 3) := by decide +kernel
theorem d_M_letter_14 : decode b_M_letter 14 = .ok (.ifCond .ne 5, 3) := by decide +kernel
theorem d_M_letter_17 : decode b_M_letter 17 = .ok (.iconst (-1), 1) := by decide +kernel
theorem d_M_letter_18 : decode b_M_letter 18 = .ok (.ireturn, 1) := by decide +kernel
theorem d_M_letter_19 : decode b_M_letter 19 = .ok (.aload_n 0, 1) := by decide +kernel
theorem d_M_letter_20 : decode b_M_letter 20 = .ok (.iload_n 1, 1) := by decide +kernel
theorem d_M_letter_21 : decode b_M_letter 21 = .ok (.iload_n 2, 1) := by decide +kernel
theorem d_M_letter_22 : decode b_M_letter 22 = .ok (.invokevirtual 170, 3) := by decide +kernel
theorem d_M_letter_25 : decode b_M_letter 25 = .ok (.ifCond .ne 6, 3) := by decide +kernel
theorem d_M_letter_28 : decode b_M_letter 28 = .ok (.bipush (-2), 2) := by decide +kernel
theorem d_M_letter_30 : decode b_M_letter 30 = .ok (.ireturn, 1) := by decide +kernel
theorem d_M_letter_31 : decode b_M_letter 31 = .ok (.iload_n 3, 1) := by decide +kernel
theorem d_M_letter_32 : decode b_M_letter 32 = .ok (.ifCond .lt 11, 3) := by decide +kernel
theorem d_M_letter_35 : decode b_M_letter 35 = .ok (.iload_n 3, 1) := by decide +kernel
theorem d_M_letter_36 : decode b_M_letter 36 = .ok (.aload_n 0, 1) := by decide +kernel
theorem d_M_letter_37 : decode b_M_letter 37 = .ok (.getfield 76, 3) := by decide +kernel
theorem d_M_letter_40 : decode b_M_letter 40 = .ok (.if_icmp .lt 7, 3) := by decide +kernel
theorem d_M_letter_43 : decode b_M_letter 43 = .ok (.iconst 0, 1) := by decide +kernel
theorem d_M_letter_44 : decode b_M_letter 44 = .ok (.goto 9, 3) := by decide +kernel
theorem d_M_letter_47 : decode b_M_letter 47 = .ok (.aload_n 0, 1) := by decide +kernel
theorem d_M_letter_48 : decode b_M_letter 48 = .ok (.getfield 7, 3) := by decide +kernel
theorem d_M_letter_51 : decode b_M_letter 51 = .ok (.iload_n 3, 1) := by decide +kernel
theorem d_M_letter_52 : decode b_M_letter 52 = .ok (.iaload, 1) := by decide +kernel
theorem d_M_letter_53 : decode b_M_letter 53 = .ok (.ireturn, 1) := by decide +kernel
theorem d_M_isType_0 : decode b_M_isType 0 = .ok (.iload_n 0, 1) := by decide +kernel
theorem d_M_isType_1 : decode b_M_isType 1 = .ok (.iconst 0, 1) := by decide +kernel
theorem d_M_isType_2 : decode b_M_isType 2 = .ok (.bipush 24, 2) := by decide +kernel
theorem d_M_isType_4 : decode b_M_isType 4 = .ok (.invokestatic 26, 3) := by decide +kernel
theorem d_M_isType_7 : decode b_M_isType 7 = .ok (.ifCond .ne 37, 3) := by decide +kernel
theorem d_M_isType_10 : decode b_M_isType 10 = .ok (.iload_n 0, 1) := by decide +kernel
theorem d_M_isType_11 : decode b_M_isType 11 = .ok (.bipush 40, 2) := by decide +kernel
theorem d_M_isType_13 : decode b_M_isType 13 = .ok (.bipush 64, 2) := by decide +kernel
theorem d_M_isType_15 : decode b_M_isType 15 = .ok (.invokestatic 26, 3) := by decide +kernel
theorem d_M_isType_18 : decode b_M_isType 18 = .ok (.ifCond .eq 9, 3) := by decide +kernel
theorem d_M_isType_21 : decode b_M_isType 21 = .ok (.iload_n 0, 1) := by decide +kernel
theorem d_M_isType_22 : decode b_M_isType 22 = .ok (.bipush 48, 2) := by decide +kernel
theorem d_M_isType_24 : decode b_M_isType 24 = .ok (.if_icmp .ne 20, 3) := by decide +kernel
theorem d_M_isType_27 : decode b_M_isType 27 = .ok (.iload_n 0, 1) := by decide +kernel
theorem d_M_isType_28 : decode b_M_isType 28 = .ok (.bipush 80, 2) := by decide +kernel
theorem d_M_isType_30 : decode b_M_isType 30 = .ok (.bipush 104, 2) := by decide +kernel
theorem d_M_isType_32 : decode b_M_isType 32 = .ok (.invokestatic 26, 3) := by decide +kernel
theorem d_M_isType_35 : decode b_M_isType 35 = .ok (.ifCond .eq 13, 3) := by decide +kernel
theorem d_M_isType_38 : decode b_M_isType 38 = .ok (.iload_n 0, 1) := by decide +kernel
theorem d_M_isType_39 : decode b_M_isType 39 = .ok (.bipush 88, 2) := by decide +kernel
theorem d_M_isType_41 : decode b_M_isType 41 = .ok (.if_icmp .eq 7, 3) := by decide +kernel
theorem d_M_isType_44 : decode b_M_isType 44 = .ok (.iconst 1, 1) := by decide +kernel
theorem d_M_isType_45 : decode b_M_isType 45 = .ok (.goto 4, 3) := by decide +kernel
theorem d_M_isType_48 : decode b_M_isType 48 = .ok (.iconst 0, 1) := by decide +kernel
theorem d_M_isType_49 : decode b_M_isType 49 = .ok (.ireturn, 1) := by decide +kernel
theorem d_M_in_0 : decode b_M_in 0 = .ok (.iload_n 0, 1) := by decide +kernel
theorem d_M_in_1 : decode b_M_in 1 = .ok (.iload_n 1, 1) := by decide +kernel
theorem d_M_in_2 : decode b_M_in 2 = .ok (.if_icmp .lt 12, 3) := by decide +kernel
theorem d_M_in_5 : decode b_M_in 5 = .ok (.iload_n 0, 1) := by decide +kernel
theorem d_M_in_6 : decode b_M_in 6 = .ok (.iload_n 2, 1) := by decide +kernel
theorem d_M_in_7 : decode b_M_in 7 = .ok (.if_icmp .gt 7, 3) := by decide +kernel
theorem d_M_in_10 : decode b_M_in 10 = .ok (.iconst 1, 1) := by decide +kernel
theorem d_M_in_11 : decode b_M_in 11 = .ok (.goto 4, 3) := by decide +kernel
theorem d_M_in_14 : decode b_M_in 14 = .ok (.iconst 0, 1) := by decide +kernel
theorem d_M_in_15 : decode b_M_in 15 = .ok (.ireturn, 1) := by decide +kernel
theorem d_M_make_0 : decode b_M_make 0 = .ok (.aload_n 0, 1) := by decide +kernel
theorem d_M_make_1 : decode b_M_make 1 = .ok (.iconst 0, 1) := by decide +kernel
theorem d_M_make_2 : decode b_M_make 2 = .ok (.putfield 76, 3) := by decide +kernel
theorem d_M_make_5 : decode b_M_make 5 = .ok (.iload_n 1, 1) := by decide +kernel
theorem d_M_make_6 : decode b_M_make 6 = .ok (.invokestatic 141, 3) := by decide +kernel
theorem d_M_make_9 : decode b_M_make 9 = .ok (.istore_n 3, 1) := by decide +kernel
theorem d_M_make_10 : decode b_M_make 10 = .ok (.iload_n 2, 1) := by decide +kernel
theorem d_M_make_11 : decode b_M_make 11 = .ok (.tableswitch 267 0 6 #[41, 48, 67, 140, 152, 180, 235], 41) := by decide +kernel
theorem d_M_make_52 : decode b_M_make 52 = .ok (.aload_n 0, 1) := by decide +kernel
theorem d_M_make_53 : decode b_M_make 53 = .ok (.iload_n 1, 1) := by decide +kernel
theorem d_M_make_54 : decode b_M_make 54 = .ok (.invokevirtual 148, 3) := by decide +kernel
theorem d_M_make_57 : decode b_M_make 57 = .ok (.iconst 1, 1) := by decide +kernel
theorem d_M_make_58 : decode b_M_make 58 = .ok (.ireturn, 1) := by decide +kernel
theorem d_M_make_59 : decode b_M_make 59 = .ok (.iload_n 3, 1) := by decide +kernel
theorem d_M_make_60 : decode b_M_make 60 = .ok (.invokestatic 151, 3) := by decide +kernel
theorem d_M_make_63 : decode b_M_make 63 = .ok (.ifCond .ne 8, 3) := by decide +kernel
theorem d_M_make_66 : decode b_M_make 66 = .ok (.aload_n 0, 1) := by decide +kernel
theorem d_M_make_67 : decode b_M_make 67 = .ok (.iload_n 3, 1) := by decide +kernel
theorem d_M_make_68 : decode b_M_make 68 = .ok (.invokevirtual 99, 3) := by decide +kernel
theorem d_M_make_71 : decode b_M_make 71 = .ok (.aload_n 0, 1) := by decide +kernel
theorem d_M_make_72 : decode b_M_make 72 = .ok (.iload_n 1, 1) := by decide +kernel
theorem d_M_make_73 : decode b_M_make 73 = .ok (.invokevirtual 154, 3) := by decide +kernel
theorem d_M_make_76 : decode b_M_make 76 = .ok (.iconst 1, 1) := by decide +kernel
theorem d_M_make_77 : decode b_M_make 77 = .ok (.ireturn, 1) := by decide +kernel
theorem d_M_make_78 : decode b_M_make 78 = .ok (.aload_n 0, 1) := by decide +kernel
theorem d_M_make_79 : decode b_M_make 79 = .ok (.iload_n 3, 1) := by decide +kernel
theorem d_M_make_80 : decode b_M_make 80 = .ok (.invokevirtual 110, 3) := by decide +kernel
theorem d_M_make_83 : decode b_M_make 83 = .ok (.iconst 0, 1) := by decide +kernel
theorem d_M_make_84 : decode b_M_make 84 = .ok (.istore 4, 2) := by decide +kernel
theorem d_M_make_86 : decode b_M_make 86 = .ok (.iload 4, 2) := by decide +kernel
theorem d_M_make_88 : decode b_M_make 88 = .ok (.aload_n 0, 1) := by decide +kernel
theorem d_M_make_89 : decode b_M_make 89 = .ok (.getfield 76, 3) := by decide +kernel
theorem d_M_make_92 : decode b_M_make 92 = .ok (.if_icmp .ge 30, 3) := by decide +kernel
theorem d_M_make_95 : decode b_M_make 95 = .ok (.aload_n 0, 1) := by decide +kernel
theorem d_M_make_96 : decode b_M_make 96 = .ok (.getfield 7, 3) := by decide +kernel
theorem d_M_make_99 : decode b_M_make 99 = .ok (.iload 4, 2) := by decide +kernel
theorem d_M_make_101 : decode b_M_make 101 = .ok (.iaload, 1) := by decide +kernel
theorem d_M_make_102 : decode b_M_make 102 = .ok (.bipush 36, 2) := by decide +kernel
theorem d_M_make_104 : decode b_M_make 104 = .ok (.if_icmp .ne 12, 3) := by decide +kernel
theorem d_M_make_107 : decode b_M_make 107 = .ok (.aload_n 0, 1) := by decide +kernel
theorem d_M_make_108 : decode b_M_make 108 = .ok (.getfield 7, 3) := by decide +kernel
theorem d_M_make_111 : decode b_M_make 111 = .ok (.iload 4, 2) := by decide +kernel
theorem d_M_make_113 : decode b_M_make 113 = .ok (.bipush 46, 2) := by decide +kernel
theorem d_M_make_115 : decode b_M_make 115 = .ok (.iastore, 1) := by decide +kernel
theorem d_M_make_116 : decode b_M_make 116 = .ok (.iinc 4 1, 3) := by decide +kernel
theorem d_M_make_119 : decode b_M_make 119 = .ok (.goto (-33), 3) := by decide +kernel
theorem d_M_make_122 : decode b_M_make 122 = .ok (.aload_n 0, 1) := by decide +kernel
theorem d_M_make_123 : decode b_M_make 123 = .ok (.iload_n 1, 1) := by decide +kernel
theorem d_M_make_124 : decode b_M_make 124 = .ok (.invokevirtual 154, 3) := by decide +kernel
theorem d_M_make_127 : decode b_M_make 127 = .ok (.iload_n 3, 1) := by decide +kernel
theorem d_M_make_128 : decode b_M_make 128 = .ok (.bipush 17, 2) := by decide +kernel
theorem d_M_make_130 : decode b_M_make 130 = .ok (.if_icmp .eq 19, 3) := by decide +kernel
theorem d_M_make_133 : decode b_M_make 133 = .ok (.iload_n 3, 1) := by decide +kernel
theorem d_M_make_134 : decode b_M_make 134 = .ok (.bipush 23, 2) := by decide +kernel
theorem d_M_make_136 : decode b_M_make 136 = .ok (.if_icmp .eq 13, 3) := by decide +kernel
theorem d_M_make_139 : decode b_M_make 139 = .ok (.iload_n 3, 1) := by decide +kernel
theorem d_M_make_140 : decode b_M_make 140 = .ok (.bipush 24, 2) := by decide +kernel
theorem d_M_make_142 : decode b_M_make 142 = .ok (.if_icmp .eq 7, 3) := by decide +kernel
theorem d_M_make_145 : decode b_M_make 145 = .ok (.iconst 1, 1) := by decide +kernel
theorem d_M_make_146 : decode b_M_make 146 = .ok (.goto 4, 3) := by decide +kernel
theorem d_M_make_149 : decode b_M_make 149 = .ok (.iconst 0, 1) := by decide +kernel
theorem d_M_make_150 : decode b_M_make 150 = .ok (.ireturn, 1) := by decide +kernel
theorem d_M_make_151 : decode b_M_make 151 = .ok (.aload_n 0, 1) := by decide +kernel
theorem d_M_make_152 : decode b_M_make 152 = .ok (.iload_n 3, 1) := by decide +kernel
theorem d_M_make_153 : decode b_M_make 153 = .ok (.invokevirtual 110, 3) := by decide +kernel
theorem d_M_make_156 : decode b_M_make 156 = .ok (.aload_n 0, 1) := by decide +kernel
theorem d_M_make_157 : decode b_M_make 157 = .ok (.iload_n 1, 1) := by decide +kernel
theorem d_M_make_158 : decode b_M_make 158 = .ok (.invokevirtual 154, 3) := by decide +kernel
theorem d_M_make_161 : decode b_M_make 161 = .ok (.iconst 1, 1) := by decide +kernel
theorem d_M_make_162 : decode b_M_make 162 = .ok (.ireturn, 1) := by decide +kernel
theorem d_M_make_163 : decode b_M_make 163 = .ok (.iload_n 3, 1) := by decide +kernel
theorem d_M_make_164 : decode b_M_make 164 = .ok (.bipush 11, 2) := by decide +kernel
theorem d_M_make_166 : decode b_M_make 166 = .ok (.if_icmp .ge 10, 3) := by decide +kernel
theorem d_M_make_169 : decode b_M_make 169 = .ok (.aload_n 0, 1) := by decide +kernel
theorem d_M_make_170 : decode b_M_make 170 = .ok (.ldc2_w 95, 3) := by decide +kernel
theorem d_M_make_173 : decode b_M_make 173 = .ok (.invokevirtual 85, 3) := by decide +kernel
theorem d_M_make_176 : decode b_M_make 176 = .ok (.iload_n 3, 1) := by decide +kernel
theorem d_M_make_177 : decode b_M_make 177 = .ok (.bipush 11, 2) := by decide +kernel
theorem d_M_make_179 : decode b_M_make 179 = .ok (.if_icmp .ge 10, 3) := by decide +kernel
theorem d_M_make_182 : decode b_M_make 182 = .ok (.aload_n 0, 1) := by decide +kernel
theorem d_M_make_183 : decode b_M_make 183 = .ok (.ldc2_w 157, 3) := by decide +kernel
theorem d_M_make_186 : decode b_M_make 186 = .ok (.invokevirtual 85, 3) := by decide +kernel
theorem d_M_make_189 : decode b_M_make 189 = .ok (.iconst 1, 1) := by decide +kernel
theorem d_M_make_190 : decode b_M_make 190 = .ok (.ireturn, 1) := by decide +kernel
theorem d_M_make_191 : decode b_M_make 191 = .ok (.iload_n 1, 1) := by decide +kernel
theorem d_M_make_192 : decode b_M_make 192 = .ok (.invokestatic 159, 3) := by decide +kernel
theorem d_M_make_195 : decode b_M_make 195 = .ok (.ifCond .eq 17, 3) := by decide +kernel
theorem d_M_make_198 : decode b_M_make 198 = .ok (.aload_n 0, 1) := by decide +kernel
theorem d_M_make_199 : decode b_M_make 199 = .ok (.iconst 1, 1) := by decide +kernel
theorem d_M_make_200 : decode b_M_make 200 = .ok (.ldc2_w 137, 3) := by decide +kernel
theorem d_M_make_203 : decode b_M_make 203 = .ok (.ldc2_w 139, 3) := by decide +kernel
theorem d_M_make_206 : decode b_M_make 206 = .ok (.invokevirtual 121, 3) := by decide +kernel
theorem d_M_make_209 : decode b_M_make 209 = .ok (.goto 17, 3) := by decide +kernel
theorem d_M_make_212 : decode b_M_make 212 = .ok (.iload_n 1, 1) := by decide +kernel
theorem d_M_make_213 : decode b_M_make 213 = .ok (.invokestatic 102, 3) := by decide +kernel
theorem d_M_make_216 : decode b_M_make 216 = .ok (.ifCond .ne 10, 3) := by decide +kernel
theorem d_M_make_219 : decode b_M_make 219 = .ok (.aload_n 0, 1) := by decide +kernel
theorem d_M_make_220 : decode b_M_make 220 = .ok (.ldc2_w 162, 3) := by decide +kernel
theorem d_M_make_223 : decode b_M_make 223 = .ok (.invokevirtual 85, 3) := by decide +kernel
theorem d_M_make_226 : decode b_M_make 226 = .ok (.iload_n 1, 1) := by decide +kernel
theorem d_M_make_227 : decode b_M_make 227 = .ok (.invokestatic 102, 3) := by decide +kernel
theorem d_M_make_230 : decode b_M_make 230 = .ok (.ifCond .ne 9, 3) := by decide +kernel
theorem d_M_make_233 : decode b_M_make 233 = .ok (.aload_n 0, 1) := by decide +kernel
theorem d_M_make_234 : decode b_M_make 234 = .ok (.bipush 32, 2) := by decide +kernel
theorem d_M_make_236 : decode b_M_make 236 = .ok (.invokevirtual 79, 3) := by decide +kernel
theorem d_M_make_239 : decode b_M_make 239 = .ok (.aload_n 0, 1) := by decide +kernel
theorem d_M_make_240 : decode b_M_make 240 = .ok (.iload_n 1, 1) := by decide +kernel
theorem d_M_make_241 : decode b_M_make 241 = .ok (.invokevirtual 148, 3) := by decide +kernel
theorem d_M_make_244 : decode b_M_make 244 = .ok (.iconst 1, 1) := by decide +kernel
theorem d_M_make_245 : decode b_M_make 245 = .ok (.ireturn, 1) := by decide +kernel
theorem d_M_make_246 : decode b_M_make 246 = .ok (.iconst 0, 1) := by decide +kernel
theorem d_M_make_247 : decode b_M_make 247 = .ok (.istore 4, 2) := by decide +kernel
theorem d_M_make_249 : decode b_M_make 249 = .ok (.iload 4, 2) := by decide +kernel
theorem d_M_make_251 : decode b_M_make 251 = .ok (.iload_n 1, 1) := by decide +kernel
theorem d_M_make_252 : decode b_M_make 252 = .ok (.invokestatic 113, 3) := by decide +kernel
theorem d_M_make_255 : decode b_M_make 255 = .ok (.if_icmp .ge 15, 3) := by decide +kernel
theorem d_M_make_258 : decode b_M_make 258 = .ok (.aload_n 0, 1) := by decide +kernel
theorem d_M_make_259 : decode b_M_make 259 = .ok (.bipush 91, 2) := by decide +kernel
theorem d_M_make_261 : decode b_M_make 261 = .ok (.invokevirtual 79, 3) := by decide +kernel
theorem d_M_make_264 : decode b_M_make 264 = .ok (.iinc 4 1, 3) := by decide +kernel
theorem d_M_make_267 : decode b_M_make 267 = .ok (.goto (-18), 3) := by decide +kernel
theorem d_M_make_270 : decode b_M_make 270 = .ok (.aload_n 0, 1) := by decide +kernel
theorem d_M_make_271 : decode b_M_make 271 = .ok (.iload_n 3, 1) := by decide +kernel
theorem d_M_make_272 : decode b_M_make 272 = .ok (.iconst 1, 1) := by decide +kernel
theorem d_M_make_273 : decode b_M_make 273 = .ok (.invokevirtual 144, 3) := by decide +kernel
theorem d_M_make_276 : decode b_M_make 276 = .ok (.iconst 1, 1) := by decide +kernel
theorem d_M_make_277 : decode b_M_make 277 = .ok (.ireturn, 1) := by decide +kernel
theorem d_M_make_278 : decode b_M_make 278 = .ok (.aload_n 0, 1) := by decide +kernel
theorem d_M_make_279 : decode b_M_make 279 = .ok (.iload_n 1, 1) := by decide +kernel
theorem d_M_make_280 : decode b_M_make 280 = .ok (.invokevirtual 164, 3) := by decide +kernel
theorem d_M_make_283 : decode b_M_make 283 = .ok (.iconst 1, 1) := by decide +kernel
theorem d_M_make_284 : decode b_M_make 284 = .ok (.ireturn, 1) := by decide +kernel
theorem d_M_plain_0 : decode b_M_plain 0 = .ok (.iload_n 0, 1) := by decide +kernel
theorem d_M_plain_1 : decode b_M_plain 1 = .ok (.bipush 40, 2) := by decide +kernel
theorem d_M_plain_3 : decode b_M_plain 3 = .ok (.irem, 1) := by decide +kernel
theorem d_M_plain_4 : decode b_M_plain 4 = .ok (.ireturn, 1) := by decide +kernel
theorem d_M_addWhole_0 : decode b_M_addWhole 0 = .ok (.iload_n 1, 1) := by decide +kernel
theorem d_M_addWhole_1 : decode b_M_addWhole 1 = .ok (.invokestatic 141, 3) := by decide +kernel
theorem d_M_addWhole_4 : decode b_M_addWhole 4 = .ok (.istore_n 2, 1) := by decide +kernel
theorem d_M_addWhole_5 : decode b_M_addWhole 5 = .ok (.iconst 0, 1) := by decide +kernel
theorem d_M_addWhole_6 : decode b_M_addWhole 6 = .ok (.istore_n 3, 1) := by decide +kernel
theorem d_M_addWhole_7 : decode b_M_addWhole 7 = .ok (.iload_n 3, 1) := by decide +kernel
theorem d_M_addWhole_8 : decode b_M_addWhole 8 = .ok (.iload_n 1, 1) := by decide +kernel
theorem d_M_addWhole_9 : decode b_M_addWhole 9 = .ok (.invokestatic 113, 3) := by decide +kernel
theorem d_M_addWhole_12 : decode b_M_addWhole 12 = .ok (.if_icmp .ge 15, 3) := by decide +kernel
theorem d_M_addWhole_15 : decode b_M_addWhole 15 = .ok (.aload_n 0, 1) := by decide +kernel
theorem d_M_addWhole_16 : decode b_M_addWhole 16 = .ok (.bipush 91, 2) := by decide +kernel
theorem d_M_addWhole_18 : decode b_M_addWhole 18 = .ok (.invokevirtual 79, 3) := by decide +kernel
theorem d_M_addWhole_21 : decode b_M_addWhole 21 = .ok (.iinc 3 1, 3) := by decide +kernel
theorem d_M_addWhole_24 : decode b_M_addWhole 24 = .ok (.goto (-17), 3) := by decide +kernel
theorem d_M_addWhole_27 : decode b_M_addWhole 27 = .ok (.iload_n 1, 1) := by decide +kernel
theorem d_M_addWhole_28 : decode b_M_addWhole 28 = .ok (.invokestatic 113, 3) := by decide +kernel
theorem d_M_addWhole_31 : decode b_M_addWhole 31 = .ok (.ifCond .le 12, 3) := by decide +kernel
theorem d_M_addWhole_34 : decode b_M_addWhole 34 = .ok (.aload_n 0, 1) := by decide +kernel
theorem d_M_addWhole_35 : decode b_M_addWhole 35 = .ok (.iload_n 2, 1) := by decide +kernel
theorem d_M_addWhole_36 : decode b_M_addWhole 36 = .ok (.iconst 0, 1) := by decide +kernel
theorem d_M_addWhole_37 : decode b_M_addWhole 37 = .ok (.invokevirtual 144, 3) := by decide +kernel
theorem d_M_addWhole_40 : decode b_M_addWhole 40 = .ok (.goto 8, 3) := by decide +kernel
theorem d_M_addWhole_43 : decode b_M_addWhole 43 = .ok (.aload_n 0, 1) := by decide +kernel
theorem d_M_addWhole_44 : decode b_M_addWhole 44 = .ok (.iload_n 2, 1) := by decide +kernel
theorem d_M_addWhole_45 : decode b_M_addWhole 45 = .ok (.invokevirtual 110, 3) := by decide +kernel
theorem d_M_addWhole_48 : decode b_M_addWhole 48 = .ok (.return_, 1) := by decide +kernel
theorem d_M_levels_0 : decode b_M_levels 0 = .ok (.iload_n 0, 1) := by decide +kernel
theorem d_M_levels_1 : decode b_M_levels 1 = .ok (.bipush 40, 2) := by decide +kernel
theorem d_M_levels_3 : decode b_M_levels 3 = .ok (.idiv, 1) := by decide +kernel
theorem d_M_levels_4 : decode b_M_levels 4 = .ok (.ireturn, 1) := by decide +kernel
theorem d_M_one_0 : decode b_M_one 0 = .ok (.aload_n 0, 1) := by decide +kernel
theorem d_M_one_1 : decode b_M_one 1 = .ok (.getfield 7, 3) := by decide +kernel
theorem d_M_one_4 : decode b_M_one 4 = .ok (.aload_n 0, 1) := by decide +kernel
theorem d_M_one_5 : decode b_M_one 5 = .ok (.getfield 76, 3) := by decide +kernel
theorem d_M_one_8 : decode b_M_one 8 = .ok (.iload_n 1, 1) := by decide +kernel
theorem d_M_one_9 : decode b_M_one 9 = .ok (.iastore, 1) := by decide +kernel
theorem d_M_one_10 : decode b_M_one 10 = .ok (.aload_n 0, 1) := by decide +kernel
theorem d_M_one_11 : decode b_M_one 11 = .ok (.dup, 1) := by decide +kernel
theorem d_M_one_12 : decode b_M_one 12 = .ok (.getfield 76, 3) := by decide +kernel
theorem d_M_one_15 : decode b_M_one 15 = .ok (.iconst 1, 1) := by decide +kernel
theorem d_M_one_16 : decode b_M_one 16 = .ok (.iadd, 1) := by decide +kernel
theorem d_M_one_17 : decode b_M_one 17 = .ok (.putfield 76, 3) := by decide +kernel
theorem d_M_one_20 : decode b_M_one 20 = .ok (.return_, 1) := by decide +kernel
theorem d_M_addDescriptor_0 : decode b_M_addDescriptor 0 = .ok (.iload_n 1, 1) := by decide +kernel
theorem d_M_addDescriptor_1 : decode b_M_addDescriptor 1 = .ok (.invokestatic 102, 3) := by decide +kernel
theorem d_M_addDescriptor_4 : decode b_M_addDescriptor 4 = .ok (.ifCond .eq 12, 3) := by decide +kernel
theorem d_M_addDescriptor_7 : decode b_M_addDescriptor 7 = .ok (.aload_n 0, 1) := by decide +kernel
theorem d_M_addDescriptor_8 : decode b_M_addDescriptor 8 = .ok (.iload_n 1, 1) := by decide +kernel
theorem d_M_addDescriptor_9 : decode b_M_addDescriptor 9 = .ok (.invokestatic 106, 3) := by decide +kernel
theorem d_M_addDescriptor_12 : decode b_M_addDescriptor 12 = .ok (.invokevirtual 79, 3) := by decide +kernel
theorem d_M_addDescriptor_15 : decode b_M_addDescriptor 15 = .ok (.return_, 1) := by decide +kernel
theorem d_M_addDescriptor_16 : decode b_M_addDescriptor 16 = .ok (.aload_n 0, 1) := by decide +kernel
theorem d_M_addDescriptor_17 : decode b_M_addDescriptor 17 = .ok (.bipush 76, 2) := by decide +kernel
theorem d_M_addDescriptor_19 : decode b_M_addDescriptor 19 = .ok (.invokevirtual 79, 3) := by decide +kernel
theorem d_M_addDescriptor_22 : decode b_M_addDescriptor 22 = .ok (.aload_n 0, 1) := by decide +kernel
theorem d_M_addDescriptor_23 : decode b_M_addDescriptor 23 = .ok (.getfield 76, 3) := by decide +kernel
theorem d_M_addDescriptor_26 : decode b_M_addDescriptor 26 = .ok (.istore_n 3, 1) := by decide +kernel
theorem d_M_addDescriptor_27 : decode b_M_addDescriptor 27 = .ok (.aload_n 0, 1) := by decide +kernel
theorem d_M_addDescriptor_28 : decode b_M_addDescriptor 28 = .ok (.iload_n 1, 1) := by decide +kernel
theorem d_M_addDescriptor_29 : decode b_M_addDescriptor 29 = .ok (.invokevirtual 110, 3) := by decide +kernel
theorem d_M_addDescriptor_32 : decode b_M_addDescriptor 32 = .ok (.iload_n 3, 1) := by decide +kernel
theorem d_M_addDescriptor_33 : decode b_M_addDescriptor 33 = .ok (.istore 4, 2) := by decide +kernel
theorem d_M_addDescriptor_35 : decode b_M_addDescriptor 35 = .ok (.iload_n 2, 1) := by decide +kernel
theorem d_M_addDescriptor_36 : decode b_M_addDescriptor 36 = .ok (.ifCond .eq 39, 3) := by decide +kernel
theorem d_M_addDescriptor_39 : decode b_M_addDescriptor 39 = .ok (.iload 4, 2) := by decide +kernel
theorem d_M_addDescriptor_41 : decode b_M_addDescriptor 41 = .ok (.aload_n 0, 1) := by decide +kernel
theorem d_M_addDescriptor_42 : decode b_M_addDescriptor 42 = .ok (.getfield 76, 3) := by decide +kernel
theorem d_M_addDescriptor_45 : decode b_M_addDescriptor 45 = .ok (.if_icmp .ge 30, 3) := by decide +kernel
theorem d_M_addDescriptor_48 : decode b_M_addDescriptor 48 = .ok (.aload_n 0, 1) := by decide +kernel
theorem d_M_addDescriptor_49 : decode b_M_addDescriptor 49 = .ok (.getfield 7, 3) := by decide +kernel
theorem d_M_addDescriptor_52 : decode b_M_addDescriptor 52 = .ok (.iload 4, 2) := by decide +kernel
theorem d_M_addDescriptor_54 : decode b_M_addDescriptor 54 = .ok (.iaload, 1) := by decide +kernel
theorem d_M_addDescriptor_55 : decode b_M_addDescriptor 55 = .ok (.bipush 46, 2) := by decide +kernel
theorem d_M_addDescriptor_57 : decode b_M_addDescriptor 57 = .ok (.if_icmp .ne 12, 3) := by decide +kernel
theorem d_M_addDescriptor_60 : decode b_M_addDescriptor 60 = .ok (.aload_n 0, 1) := by decide +kernel
theorem d_M_addDescriptor_61 : decode b_M_addDescriptor 61 = .ok (.getfield 7, 3) := by decide +kernel
theorem d_M_addDescriptor_64 : decode b_M_addDescriptor 64 = .ok (.iload 4, 2) := by decide +kernel
theorem d_M_addDescriptor_66 : decode b_M_addDescriptor 66 = .ok (.bipush 47, 2) := by decide +kernel
theorem d_M_addDescriptor_68 : decode b_M_addDescriptor 68 = .ok (.iastore, 1) := by decide +kernel
theorem d_M_addDescriptor_69 : decode b_M_addDescriptor 69 = .ok (.iinc 4 1, 3) := by decide +kernel
theorem d_M_addDescriptor_72 : decode b_M_addDescriptor 72 = .ok (.goto (-37), 3) := by decide +kernel
theorem d_M_addDescriptor_75 : decode b_M_addDescriptor 75 = .ok (.aload_n 0, 1) := by decide +kernel
theorem d_M_addDescriptor_76 : decode b_M_addDescriptor 76 = .ok (.bipush 59, 2) := by decide +kernel
theorem d_M_addDescriptor_78 : decode b_M_addDescriptor 78 = .ok (.invokevirtual 79, 3) := by decide +kernel
theorem d_M_addDescriptor_81 : decode b_M_addDescriptor 81 = .ok (.return_, 1) := by decide +kernel
theorem d_M_primitive_0 : decode b_M_primitive 0 = .ok (.iload_n 0, 1) := by decide +kernel
theorem d_M_primitive_1 : decode b_M_primitive 1 = .ok (.iconst 0, 1) := by decide +kernel
theorem d_M_primitive_2 : decode b_M_primitive 2 = .ok (.bipush 8, 2) := by decide +kernel
theorem d_M_primitive_4 : decode b_M_primitive 4 = .ok (.invokestatic 26, 3) := by decide +kernel
theorem d_M_primitive_7 : decode b_M_primitive 7 = .ok (.ireturn, 1) := by decide +kernel
theorem d_M_sign_0 : decode b_M_sign 0 = .ok (.bipush 9, 2) := by decide +kernel
theorem d_M_sign_2 : decode b_M_sign 2 = .ok (.newarray .int, 2) := by decide +kernel
theorem d_M_sign_4 : decode b_M_sign 4 = .ok (.dup, 1) := by decide +kernel
theorem d_M_sign_5 : decode b_M_sign 5 = .ok (.iconst 0, 1) := by decide +kernel
theorem d_M_sign_6 : decode b_M_sign 6 = .ok (.bipush 90, 2) := by decide +kernel
theorem d_M_sign_8 : decode b_M_sign 8 = .ok (.iastore, 1) := by decide +kernel
theorem d_M_sign_9 : decode b_M_sign 9 = .ok (.dup, 1) := by decide +kernel
theorem d_M_sign_10 : decode b_M_sign 10 = .ok (.iconst 1, 1) := by decide +kernel
theorem d_M_sign_11 : decode b_M_sign 11 = .ok (.bipush 66, 2) := by decide +kernel
theorem d_M_sign_13 : decode b_M_sign 13 = .ok (.iastore, 1) := by decide +kernel
theorem d_M_sign_14 : decode b_M_sign 14 = .ok (.dup, 1) := by decide +kernel
theorem d_M_sign_15 : decode b_M_sign 15 = .ok (.iconst 2, 1) := by decide +kernel
theorem d_M_sign_16 : decode b_M_sign 16 = .ok (.bipush 67, 2) := by decide +kernel
theorem d_M_sign_18 : decode b_M_sign 18 = .ok (.iastore, 1) := by decide +kernel
theorem d_M_sign_19 : decode b_M_sign 19 = .ok (.dup, 1) := by decide +kernel
theorem d_M_sign_20 : decode b_M_sign 20 = .ok (.iconst 3, 1) := by decide +kernel
theorem d_M_sign_21 : decode b_M_sign 21 = .ok (.bipush 83, 2) := by decide +kernel
theorem d_M_sign_23 : decode b_M_sign 23 = .ok (.iastore, 1) := by decide +kernel
theorem d_M_sign_24 : decode b_M_sign 24 = .ok (.dup, 1) := by decide +kernel
theorem d_M_sign_25 : decode b_M_sign 25 = .ok (.iconst 4, 1) := by decide +kernel
theorem d_M_sign_26 : decode b_M_sign 26 = .ok (.bipush 73, 2) := by decide +kernel
theorem d_M_sign_28 : decode b_M_sign 28 = .ok (.iastore, 1) := by decide +kernel
theorem d_M_sign_29 : decode b_M_sign 29 = .ok (.dup, 1) := by decide +kernel
theorem d_M_sign_30 : decode b_M_sign 30 = .ok (.iconst 5, 1) := by decide +kernel
theorem d_M_sign_31 : decode b_M_sign 31 = .ok (.bipush 74, 2) := by decide +kernel
theorem d_M_sign_33 : decode b_M_sign 33 = .ok (.iastore, 1) := by decide +kernel
theorem d_M_sign_34 : decode b_M_sign 34 = .ok (.dup, 1) := by decide +kernel
theorem d_M_sign_35 : decode b_M_sign 35 = .ok (.bipush 6, 2) := by decide +kernel
theorem d_M_sign_37 : decode b_M_sign 37 = .ok (.bipush 70, 2) := by decide +kernel
theorem d_M_sign_39 : decode b_M_sign 39 = .ok (.iastore, 1) := by decide +kernel
theorem d_M_sign_40 : decode b_M_sign 40 = .ok (.dup, 1) := by decide +kernel
theorem d_M_sign_41 : decode b_M_sign 41 = .ok (.bipush 7, 2) := by decide +kernel
theorem d_M_sign_43 : decode b_M_sign 43 = .ok (.bipush 68, 2) := by decide +kernel
theorem d_M_sign_45 : decode b_M_sign 45 = .ok (.iastore, 1) := by decide +kernel
theorem d_M_sign_46 : decode b_M_sign 46 = .ok (.dup, 1) := by decide +kernel
theorem d_M_sign_47 : decode b_M_sign 47 = .ok (.bipush 8, 2) := by decide +kernel
theorem d_M_sign_49 : decode b_M_sign 49 = .ok (.bipush 86, 2) := by decide +kernel
theorem d_M_sign_51 : decode b_M_sign 51 = .ok (.iastore, 1) := by decide +kernel
theorem d_M_sign_52 : decode b_M_sign 52 = .ok (.astore_n 1, 1) := by decide +kernel
theorem d_M_sign_53 : decode b_M_sign 53 = .ok (.aload_n 1, 1) := by decide +kernel
theorem d_M_sign_54 : decode b_M_sign 54 = .ok (.iload_n 0, 1) := by decide +kernel
theorem d_M_sign_55 : decode b_M_sign 55 = .ok (.iaload, 1) := by decide +kernel
theorem d_M_sign_56 : decode b_M_sign 56 = .ok (.ireturn, 1) := by decide +kernel
theorem d_M_addName_0 : decode b_M_addName 0 = .ok (.iload_n 1, 1) := by decide +kernel
theorem d_M_addName_1 : decode b_M_addName 1 = .ok (.bipush 9, 2) := by decide +kernel
theorem d_M_addName_3 : decode b_M_addName 3 = .ok (.if_icmp .eq 9, 3) := by decide +kernel
theorem d_M_addName_6 : decode b_M_addName 6 = .ok (.iload_n 1, 1) := by decide +kernel
theorem d_M_addName_7 : decode b_M_addName 7 = .ok (.bipush 10, 2) := by decide +kernel
theorem d_M_addName_9 : decode b_M_addName 9 = .ok (.if_icmp .ne 17, 3) := by decide +kernel
theorem d_M_addName_12 : decode b_M_addName 12 = .ok (.aload_n 0, 1) := by decide +kernel
theorem d_M_addName_13 : decode b_M_addName 13 = .ok (.ldc2_w 95, 3) := by decide +kernel
theorem d_M_addName_16 : decode b_M_addName 16 = .ok (.invokevirtual 85, 3) := by decide +kernel
theorem d_M_addName_19 : decode b_M_addName 19 = .ok (.aload_n 0, 1) := by decide +kernel
theorem d_M_addName_20 : decode b_M_addName 20 = .ok (.ldc2_w 97, 3) := by decide +kernel
theorem d_M_addName_23 : decode b_M_addName 23 = .ok (.invokevirtual 85, 3) := by decide +kernel
theorem d_M_addName_26 : decode b_M_addName 26 = .ok (.iload_n 1, 1) := by decide +kernel
theorem d_M_addName_27 : decode b_M_addName 27 = .ok (.bipush 11, 2) := by decide +kernel
theorem d_M_addName_29 : decode b_M_addName 29 = .ok (.if_icmp .le 15, 3) := by decide +kernel
theorem d_M_addName_32 : decode b_M_addName 32 = .ok (.aload_n 0, 1) := by decide +kernel
theorem d_M_addName_33 : decode b_M_addName 33 = .ok (.bipush 11, 2) := by decide +kernel
theorem d_M_addName_35 : decode b_M_addName 35 = .ok (.invokevirtual 99, 3) := by decide +kernel
theorem d_M_addName_38 : decode b_M_addName 38 = .ok (.aload_n 0, 1) := by decide +kernel
theorem d_M_addName_39 : decode b_M_addName 39 = .ok (.bipush 36, 2) := by decide +kernel
theorem d_M_addName_41 : decode b_M_addName 41 = .ok (.invokevirtual 79, 3) := by decide +kernel
theorem d_M_addName_44 : decode b_M_addName 44 = .ok (.iload_n 1, 1) := by decide +kernel
theorem d_M_addName_45 : decode b_M_addName 45 = .ok (.bipush 17, 2) := by decide +kernel
theorem d_M_addName_47 : decode b_M_addName 47 = .ok (.if_icmp .eq 9, 3) := by decide +kernel
theorem d_M_addName_50 : decode b_M_addName 50 = .ok (.iload_n 1, 1) := by decide +kernel
theorem d_M_addName_51 : decode b_M_addName 51 = .ok (.bipush 19, 2) := by decide +kernel
theorem d_M_addName_53 : decode b_M_addName 53 = .ok (.if_icmp .ne 16, 3) := by decide +kernel
theorem d_M_addName_56 : decode b_M_addName 56 = .ok (.aload_n 0, 1) := by decide +kernel
theorem d_M_addName_57 : decode b_M_addName 57 = .ok (.iload_n 1, 1) := by decide +kernel
theorem d_M_addName_58 : decode b_M_addName 58 = .ok (.iconst 1, 1) := by decide +kernel
theorem d_M_addName_59 : decode b_M_addName 59 = .ok (.isub, 1) := by decide +kernel
theorem d_M_addName_60 : decode b_M_addName 60 = .ok (.invokevirtual 99, 3) := by decide +kernel
theorem d_M_addName_63 : decode b_M_addName 63 = .ok (.aload_n 0, 1) := by decide +kernel
theorem d_M_addName_64 : decode b_M_addName 64 = .ok (.bipush 36, 2) := by decide +kernel
theorem d_M_addName_66 : decode b_M_addName 66 = .ok (.invokevirtual 79, 3) := by decide +kernel
theorem d_M_addName_69 : decode b_M_addName 69 = .ok (.iload_n 1, 1) := by decide +kernel
theorem d_M_addName_70 : decode b_M_addName 70 = .ok (.bipush 23, 2) := by decide +kernel
theorem d_M_addName_72 : decode b_M_addName 72 = .ok (.if_icmp .ne 9, 3) := by decide +kernel
theorem d_M_addName_75 : decode b_M_addName 75 = .ok (.aload_n 0, 1) := by decide +kernel
theorem d_M_addName_76 : decode b_M_addName 76 = .ok (.bipush 49, 2) := by decide +kernel
theorem d_M_addName_78 : decode b_M_addName 78 = .ok (.invokevirtual 79, 3) := by decide +kernel
theorem d_M_addName_81 : decode b_M_addName 81 = .ok (.aload_n 0, 1) := by decide +kernel
theorem d_M_addName_82 : decode b_M_addName 82 = .ok (.iload_n 1, 1) := by decide +kernel
theorem d_M_addName_83 : decode b_M_addName 83 = .ok (.invokevirtual 99, 3) := by decide +kernel
theorem d_M_addName_86 : decode b_M_addName 86 = .ok (.return_, 1) := by decide +kernel
theorem d_M_add_0 : decode b_M_add 0 = .ok (.bipush 56, 2) := by decide +kernel
theorem d_M_add_2 : decode b_M_add 2 = .ok (.istore_n 3, 1) := by decide +kernel
theorem d_M_add_3 : decode b_M_add 3 = .ok (.iload_n 3, 1) := by decide +kernel
theorem d_M_add_4 : decode b_M_add 4 = .ok (.ifCond .lt 30, 3) := by decide +kernel
theorem d_M_add_7 : decode b_M_add 7 = .ok (.lload_n 1, 1) := by decide +kernel
theorem d_M_add_8 : decode b_M_add 8 = .ok (.iload_n 3, 1) := by decide +kernel
theorem d_M_add_9 : decode b_M_add 9 = .ok (.lushr, 1) := by decide +kernel
theorem d_M_add_10 : decode b_M_add 10 = .ok (.l2i, 1) := by decide +kernel
theorem d_M_add_11 : decode b_M_add 11 = .ok (.sipush 255, 3) := by decide +kernel
theorem d_M_add_14 : decode b_M_add 14 = .ok (.iand, 1) := by decide +kernel
theorem d_M_add_15 : decode b_M_add 15 = .ok (.istore 4, 2) := by decide +kernel
theorem d_M_add_17 : decode b_M_add 17 = .ok (.iload 4, 2) := by decide +kernel
theorem d_M_add_19 : decode b_M_add 19 = .ok (.ifCond .eq 9, 3) := by decide +kernel
theorem d_M_add_22 : decode b_M_add 22 = .ok (.aload_n 0, 1) := by decide +kernel
theorem d_M_add_23 : decode b_M_add 23 = .ok (.iload 4, 2) := by decide +kernel
theorem d_M_add_25 : decode b_M_add 25 = .ok (.invokevirtual 79, 3) := by decide +kernel
theorem d_M_add_28 : decode b_M_add 28 = .ok (.iinc 3 (-8), 3) := by decide +kernel
theorem d_M_add_31 : decode b_M_add 31 = .ok (.goto (-28), 3) := by decide +kernel
theorem d_M_add_34 : decode b_M_add 34 = .ok (.return_, 1) := by decide +kernel
theorem d_M_addOwn_0 : decode b_M_addOwn 0 = .ok (.iload_n 1, 1) := by decide +kernel
theorem d_M_addOwn_1 : decode b_M_addOwn 1 = .ok (.bipush 11, 2) := by decide +kernel
theorem d_M_addOwn_3 : decode b_M_addOwn 3 = .ok (.if_icmp .ne 20, 3) := by decide +kernel
theorem d_M_addOwn_6 : decode b_M_addOwn 6 = .ok (.aload_n 0, 1) := by decide +kernel
theorem d_M_addOwn_7 : decode b_M_addOwn 7 = .ok (.ldc2_w 83, 3) := by decide +kernel
theorem d_M_addOwn_10 : decode b_M_addOwn 10 = .ok (.invokevirtual 85, 3) := by decide +kernel
theorem d_M_addOwn_13 : decode b_M_addOwn 13 = .ok (.aload_n 0, 1) := by decide +kernel
theorem d_M_addOwn_14 : decode b_M_addOwn 14 = .ok (.ldc2_w 89, 3) := by decide +kernel
theorem d_M_addOwn_17 : decode b_M_addOwn 17 = .ok (.invokevirtual 85, 3) := by decide +kernel
theorem d_M_addOwn_20 : decode b_M_addOwn 20 = .ok (.goto 11, 3) := by decide +kernel
theorem d_M_addOwn_23 : decode b_M_addOwn 23 = .ok (.aload_n 0, 1) := by decide +kernel
theorem d_M_addOwn_24 : decode b_M_addOwn 24 = .ok (.iload_n 1, 1) := by decide +kernel
theorem d_M_addOwn_25 : decode b_M_addOwn 25 = .ok (.invokestatic 91, 3) := by decide +kernel
theorem d_M_addOwn_28 : decode b_M_addOwn 28 = .ok (.invokevirtual 85, 3) := by decide +kernel
theorem d_M_addOwn_31 : decode b_M_addOwn 31 = .ok (.return_, 1) := by decide +kernel
theorem d_M_own_0 : decode b_M_own 0 = .ok (.iload_n 0, 1) := by decide +kernel
theorem d_M_own_1 : decode b_M_own 1 = .ok (.tableswitch 207 0 24 #[115, 119, 123, 127, 131, 135, 139, 143, 147, 151, 155, 207, 159, 163, 167, 171, 175, 179, 183, 187, 191, 195, 199, 203, 179], 115) := by decide +kernel
theorem d_M_own_116 : decode b_M_own 116 = .ok (.ldc2_w 30, 3) := by decide +kernel
theorem d_M_own_119 : decode b_M_own 119 = .ok (.lreturn, 1) := by decide +kernel
theorem d_M_own_120 : decode b_M_own 120 = .ok (.ldc2_w 32, 3) := by decide +kernel
theorem d_M_own_123 : decode b_M_own 123 = .ok (.lreturn, 1) := by decide +kernel
theorem d_M_own_124 : decode b_M_own 124 = .ok (.ldc2_w 34, 3) := by decide +kernel
theorem d_M_own_127 : decode b_M_own 127 = .ok (.lreturn, 1) := by decide +kernel
theorem d_M_own_128 : decode b_M_own 128 = .ok (.ldc2_w 36, 3) := by decide +kernel
theorem d_M_own_131 : decode b_M_own 131 = .ok (.lreturn, 1) := by decide +kernel
theorem d_M_own_132 : decode b_M_own 132 = .ok (.ldc2_w 38, 3) := by decide +kernel
theorem d_M_own_135 : decode b_M_own 135 = .ok (.lreturn, 1) := by decide +kernel
theorem d_M_own_136 : decode b_M_own 136 = .ok (.ldc2_w 40, 3) := by decide +kernel
theorem d_M_own_139 : decode b_M_own 139 = .ok (.lreturn, 1) := by decide +kernel
theorem d_M_own_140 : decode b_M_own 140 = .ok (.ldc2_w 42, 3) := by decide +kernel
theorem d_M_own_143 : decode b_M_own 143 = .ok (.lreturn, 1) := by decide +kernel
theorem d_M_own_144 : decode b_M_own 144 = .ok (.ldc2_w 44, 3) := by decide +kernel
theorem d_M_own_147 : decode b_M_own 147 = .ok (.lreturn, 1) := by decide +kernel
theorem d_M_own_148 : decode b_M_own 148 = .ok (.ldc2_w 46, 3) := by decide +kernel
theorem d_M_own_151 : decode b_M_own 151 = .ok (.lreturn, 1) := by decide +kernel
theorem d_M_own_152 : decode b_M_own 152 = .ok (.ldc2_w 48, 3) := by decide +kernel
theorem d_M_own_155 : decode b_M_own 155 = .ok (.lreturn, 1) := by decide +kernel
theorem d_M_own_156 : decode b_M_own 156 = .ok (.ldc2_w 50, 3) := by decide +kernel
theorem d_M_own_159 : decode b_M_own 159 = .ok (.lreturn, 1) := by decide +kernel
theorem d_M_own_160 : decode b_M_own 160 = .ok (.ldc2_w 52, 3) := by decide +kernel
theorem d_M_own_163 : decode b_M_own 163 = .ok (.lreturn, 1) := by decide +kernel
theorem d_M_own_164 : decode b_M_own 164 = .ok (.ldc2_w 54, 3) := by decide +kernel
theorem d_M_own_167 : decode b_M_own 167 = .ok (.lreturn, 1) := by decide +kernel
theorem d_M_own_168 : decode b_M_own 168 = .ok (.ldc2_w 56, 3) := by decide +kernel
theorem d_M_own_171 : decode b_M_own 171 = .ok (.lreturn, 1) := by decide +kernel
theorem d_M_own_172 : decode b_M_own 172 = .ok (.ldc2_w 58, 3) := by decide +kernel
theorem d_M_own_175 : decode b_M_own 175 = .ok (.lreturn, 1) := by decide +kernel
theorem d_M_own_176 : decode b_M_own 176 = .ok (.ldc2_w 60, 3) := by decide +kernel
theorem d_M_own_179 : decode b_M_own 179 = .ok (.lreturn, 1) := by decide +kernel
theorem d_M_own_180 : decode b_M_own 180 = .ok (.ldc2_w 62, 3) := by decide +kernel
theorem d_M_own_183 : decode b_M_own 183 = .ok (.lreturn, 1) := by decide +kernel
theorem d_M_own_184 : decode b_M_own 184 = .ok (.ldc2_w 64, 3) := by decide +kernel
theorem d_M_own_187 : decode b_M_own 187 = .ok (.lreturn, 1) := by decide +kernel
theorem d_M_own_188 : decode b_M_own 188 = .ok (.ldc2_w 66, 3) := by decide +kernel
theorem d_M_own_191 : decode b_M_own 191 = .ok (.lreturn, 1) := by decide +kernel
theorem d_M_own_192 : decode b_M_own 192 = .ok (.ldc2_w 68, 3) := by decide +kernel
theorem d_M_own_195 : decode b_M_own 195 = .ok (.lreturn, 1) := by decide +kernel
theorem d_M_own_196 : decode b_M_own 196 = .ok (.ldc2_w 70, 3) := by decide +kernel
theorem d_M_own_199 : decode b_M_own 199 = .ok (.lreturn, 1) := by decide +kernel
theorem d_M_own_200 : decode b_M_own 200 = .ok (.ldc2_w 72, 3) := by decide +kernel
theorem d_M_own_203 : decode b_M_own 203 = .ok (.lreturn, 1) := by decide +kernel
theorem d_M_own_204 : decode b_M_own 204 = .ok (.ldc2_w 74, 3) := by decide +kernel
theorem d_M_own_207 : decode b_M_own 207 = .ok (.lreturn, 1) := by decide +kernel
theorem d_M_own_208 : decode b_M_own 208 = .ok (.lconst 0, 1) := by decide +kernel
theorem d_M_own_209 : decode b_M_own 209 = .ok (.lreturn, 1) := by decide +kernel
theorem d_M_nameless_0 : decode b_M_nameless 0 = .ok (.iload_n 0, 1) := by decide +kernel
theorem d_M_nameless_1 : decode b_M_nameless 1 = .ok (.bipush 17, 2) := by decide +kernel
theorem d_M_nameless_3 : decode b_M_nameless 3 = .ok (.if_icmp .eq 9, 3) := by decide +kernel
theorem d_M_nameless_6 : decode b_M_nameless 6 = .ok (.iload_n 0, 1) := by decide +kernel
theorem d_M_nameless_7 : decode b_M_nameless 7 = .ok (.bipush 24, 2) := by decide +kernel
theorem d_M_nameless_9 : decode b_M_nameless 9 = .ok (.if_icmp .ne 7, 3) := by decide +kernel
theorem d_M_nameless_12 : decode b_M_nameless 12 = .ok (.iconst 1, 1) := by decide +kernel
theorem d_M_nameless_13 : decode b_M_nameless 13 = .ok (.goto 4, 3) := by decide +kernel
theorem d_M_nameless_16 : decode b_M_nameless 16 = .ok (.iconst 0, 1) := by decide +kernel
theorem d_M_nameless_17 : decode b_M_nameless 17 = .ok (.ireturn, 1) := by decide +kernel
theorem d_M_addTail_0 : decode b_M_addTail 0 = .ok (.iconst 0, 1) := by decide +kernel
theorem d_M_addTail_1 : decode b_M_addTail 1 = .ok (.istore_n 2, 1) := by decide +kernel
theorem d_M_addTail_2 : decode b_M_addTail 2 = .ok (.iload_n 2, 1) := by decide +kernel
theorem d_M_addTail_3 : decode b_M_addTail 3 = .ok (.iload_n 1, 1) := by decide +kernel
theorem d_M_addTail_4 : decode b_M_addTail 4 = .ok (.invokestatic 113, 3) := by decide +kernel
theorem d_M_addTail_7 : decode b_M_addTail 7 = .ok (.if_icmp .ge 21, 3) := by decide +kernel
theorem d_M_addTail_10 : decode b_M_addTail 10 = .ok (.aload_n 0, 1) := by decide +kernel
theorem d_M_addTail_11 : decode b_M_addTail 11 = .ok (.bipush 91, 2) := by decide +kernel
theorem d_M_addTail_13 : decode b_M_addTail 13 = .ok (.invokevirtual 79, 3) := by decide +kernel
theorem d_M_addTail_16 : decode b_M_addTail 16 = .ok (.aload_n 0, 1) := by decide +kernel
theorem d_M_addTail_17 : decode b_M_addTail 17 = .ok (.bipush 93, 2) := by decide +kernel
theorem d_M_addTail_19 : decode b_M_addTail 19 = .ok (.invokevirtual 79, 3) := by decide +kernel
theorem d_M_addTail_22 : decode b_M_addTail 22 = .ok (.iinc 2 1, 3) := by decide +kernel
theorem d_M_addTail_25 : decode b_M_addTail 25 = .ok (.goto (-23), 3) := by decide +kernel
theorem d_M_addTail_28 : decode b_M_addTail 28 = .ok (.return_, 1) := by decide +kernel
theorem d_M_isInterface_0 : decode b_M_isInterface 0 = .ok (.iload_n 0, 1) := by decide +kernel
theorem d_M_isInterface_1 : decode b_M_isInterface 1 = .ok (.bipush 10, 2) := by decide +kernel
theorem d_M_isInterface_3 : decode b_M_isInterface 3 = .ok (.if_icmp .eq 21, 3) := by decide +kernel
theorem d_M_isInterface_6 : decode b_M_isInterface 6 = .ok (.iload_n 0, 1) := by decide +kernel
theorem d_M_isInterface_7 : decode b_M_isInterface 7 = .ok (.bipush 12, 2) := by decide +kernel
theorem d_M_isInterface_9 : decode b_M_isInterface 9 = .ok (.if_icmp .eq 15, 3) := by decide +kernel
theorem d_M_isInterface_12 : decode b_M_isInterface 12 = .ok (.iload_n 0, 1) := by decide +kernel
theorem d_M_isInterface_13 : decode b_M_isInterface 13 = .ok (.bipush 13, 2) := by decide +kernel
theorem d_M_isInterface_15 : decode b_M_isInterface 15 = .ok (.if_icmp .eq 9, 3) := by decide +kernel
theorem d_M_isInterface_18 : decode b_M_isInterface 18 = .ok (.iload_n 0, 1) := by decide +kernel
theorem d_M_isInterface_19 : decode b_M_isInterface 19 = .ok (.bipush 20, 2) := by decide +kernel
theorem d_M_isInterface_21 : decode b_M_isInterface 21 = .ok (.if_icmp .ne 7, 3) := by decide +kernel
theorem d_M_isInterface_24 : decode b_M_isInterface 24 = .ok (.iconst 1, 1) := by decide +kernel
theorem d_M_isInterface_25 : decode b_M_isInterface 25 = .ok (.goto 4, 3) := by decide +kernel
theorem d_M_isInterface_28 : decode b_M_isInterface 28 = .ok (.iconst 0, 1) := by decide +kernel
theorem d_M_isInterface_29 : decode b_M_isInterface 29 = .ok (.ireturn, 1) := by decide +kernel
theorem d_M_addWord_0 : decode b_M_addWord 0 = .ok (.iload_n 1, 1) := by decide +kernel
theorem d_M_addWord_1 : decode b_M_addWord 1 = .ok (.ifCond .ne 4, 3) := by decide +kernel
theorem d_M_addWord_4 : decode b_M_addWord 4 = .ok (.return_, 1) := by decide +kernel
theorem d_M_addWord_5 : decode b_M_addWord 5 = .ok (.aload_n 0, 1) := by decide +kernel
theorem d_M_addWord_6 : decode b_M_addWord 6 = .ok (.getfield 76, 3) := by decide +kernel
theorem d_M_addWord_9 : decode b_M_addWord 9 = .ok (.ifCond .le 9, 3) := by decide +kernel
theorem d_M_addWord_12 : decode b_M_addWord 12 = .ok (.aload_n 0, 1) := by decide +kernel
theorem d_M_addWord_13 : decode b_M_addWord 13 = .ok (.bipush 32, 2) := by decide +kernel
theorem d_M_addWord_15 : decode b_M_addWord 15 = .ok (.invokevirtual 79, 3) := by decide +kernel
theorem d_M_addWord_18 : decode b_M_addWord 18 = .ok (.aload_n 0, 1) := by decide +kernel
theorem d_M_addWord_19 : decode b_M_addWord 19 = .ok (.lload_n 2, 1) := by decide +kernel
theorem d_M_addWord_20 : decode b_M_addWord 20 = .ok (.invokevirtual 85, 3) := by decide +kernel
theorem d_M_addWord_23 : decode b_M_addWord 23 = .ok (.aload_n 0, 1) := by decide +kernel
theorem d_M_addWord_24 : decode b_M_addWord 24 = .ok (.lload 4, 2) := by decide +kernel
theorem d_M_addWord_26 : decode b_M_addWord 26 = .ok (.invokevirtual 85, 3) := by decide +kernel
theorem d_M_addWord_29 : decode b_M_addWord 29 = .ok (.return_, 1) := by decide +kernel
theorem d_M_addModifiers_0 : decode b_M_addModifiers 0 = .ok (.aload_n 0, 1) := by decide +kernel
theorem d_M_addModifiers_1 : decode b_M_addModifiers 1 = .ok (.iload_n 1, 1) := by decide +kernel
theorem d_M_addModifiers_2 : decode b_M_addModifiers 2 = .ok (.invokevirtual 116, 3) := by decide +kernel
theorem d_M_addModifiers_5 : decode b_M_addModifiers 5 = .ok (.istore_n 2, 1) := by decide +kernel
theorem d_M_addModifiers_6 : decode b_M_addModifiers 6 = .ok (.aload_n 0, 1) := by decide +kernel
theorem d_M_addModifiers_7 : decode b_M_addModifiers 7 = .ok (.iload_n 2, 1) := by decide +kernel
theorem d_M_addModifiers_8 : decode b_M_addModifiers 8 = .ok (.iconst 1, 1) := by decide +kernel
theorem d_M_addModifiers_9 : decode b_M_addModifiers 9 = .ok (.iand, 1) := by decide +kernel
theorem d_M_addModifiers_10 : decode b_M_addModifiers 10 = .ok (.ifCond .eq 7, 3) := by decide +kernel
theorem d_M_addModifiers_13 : decode b_M_addModifiers 13 = .ok (.iconst 1, 1) := by decide +kernel
theorem d_M_addModifiers_14 : decode b_M_addModifiers 14 = .ok (.goto 4, 3) := by decide +kernel
theorem d_M_addModifiers_17 : decode b_M_addModifiers 17 = .ok (.iconst 0, 1) := by decide +kernel
theorem d_M_addModifiers_18 : decode b_M_addModifiers 18 = .ok (.ldc2_w 119, 3) := by decide +kernel
theorem d_M_addModifiers_21 : decode b_M_addModifiers 21 = .ok (.lconst 0, 1) := by decide +kernel
theorem d_M_addModifiers_22 : decode b_M_addModifiers 22 = .ok (.invokevirtual 121, 3) := by decide +kernel
theorem d_M_addModifiers_25 : decode b_M_addModifiers 25 = .ok (.aload_n 0, 1) := by decide +kernel
theorem d_M_addModifiers_26 : decode b_M_addModifiers 26 = .ok (.iload_n 2, 1) := by decide +kernel
theorem d_M_addModifiers_27 : decode b_M_addModifiers 27 = .ok (.iconst 4, 1) := by decide +kernel
theorem d_M_addModifiers_28 : decode b_M_addModifiers 28 = .ok (.iand, 1) := by decide +kernel
theorem d_M_addModifiers_29 : decode b_M_addModifiers 29 = .ok (.ifCond .eq 7, 3) := by decide +kernel
theorem d_M_addModifiers_32 : decode b_M_addModifiers 32 = .ok (.iconst 1, 1) := by decide +kernel
theorem d_M_addModifiers_33 : decode b_M_addModifiers 33 = .ok (.goto 4, 3) := by decide +kernel
theorem d_M_addModifiers_36 : decode b_M_addModifiers 36 = .ok (.iconst 0, 1) := by decide +kernel
theorem d_M_addModifiers_37 : decode b_M_addModifiers 37 = .ok (.ldc2_w 125, 3) := by decide +kernel
theorem d_M_addModifiers_40 : decode b_M_addModifiers 40 = .ok (.ldc2_w 127, 3) := by decide +kernel
theorem d_M_addModifiers_43 : decode b_M_addModifiers 43 = .ok (.invokevirtual 121, 3) := by decide +kernel
theorem d_M_addModifiers_46 : decode b_M_addModifiers 46 = .ok (.aload_n 0, 1) := by decide +kernel
theorem d_M_addModifiers_47 : decode b_M_addModifiers 47 = .ok (.iload_n 2, 1) := by decide +kernel
theorem d_M_addModifiers_48 : decode b_M_addModifiers 48 = .ok (.iconst 2, 1) := by decide +kernel
theorem d_M_addModifiers_49 : decode b_M_addModifiers 49 = .ok (.iand, 1) := by decide +kernel
theorem d_M_addModifiers_50 : decode b_M_addModifiers 50 = .ok (.ifCond .eq 7, 3) := by decide +kernel
theorem d_M_addModifiers_53 : decode b_M_addModifiers 53 = .ok (.iconst 1, 1) := by decide +kernel
theorem d_M_addModifiers_54 : decode b_M_addModifiers 54 = .ok (.goto 4, 3) := by decide +kernel
theorem d_M_addModifiers_57 : decode b_M_addModifiers 57 = .ok (.iconst 0, 1) := by decide +kernel
theorem d_M_addModifiers_58 : decode b_M_addModifiers 58 = .ok (.ldc2_w 129, 3) := by decide +kernel
theorem d_M_addModifiers_61 : decode b_M_addModifiers 61 = .ok (.lconst 0, 1) := by decide +kernel
theorem d_M_addModifiers_62 : decode b_M_addModifiers 62 = .ok (.invokevirtual 121, 3) := by decide +kernel
theorem d_M_addModifiers_65 : decode b_M_addModifiers 65 = .ok (.aload_n 0, 1) := by decide +kernel
theorem d_M_addModifiers_66 : decode b_M_addModifiers 66 = .ok (.iload_n 2, 1) := by decide +kernel
theorem d_M_addModifiers_67 : decode b_M_addModifiers 67 = .ok (.sipush 1024, 3) := by decide +kernel
theorem d_M_addModifiers_70 : decode b_M_addModifiers 70 = .ok (.iand, 1) := by decide +kernel
theorem d_M_addModifiers_71 : decode b_M_addModifiers 71 = .ok (.ifCond .eq 7, 3) := by decide +kernel
theorem d_M_addModifiers_74 : decode b_M_addModifiers 74 = .ok (.iconst 1, 1) := by decide +kernel
theorem d_M_addModifiers_75 : decode b_M_addModifiers 75 = .ok (.goto 4, 3) := by decide +kernel
theorem d_M_addModifiers_78 : decode b_M_addModifiers 78 = .ok (.iconst 0, 1) := by decide +kernel
theorem d_M_addModifiers_79 : decode b_M_addModifiers 79 = .ok (.ldc2_w 131, 3) := by decide +kernel
theorem d_M_addModifiers_82 : decode b_M_addModifiers 82 = .ok (.lconst 0, 1) := by decide +kernel
theorem d_M_addModifiers_83 : decode b_M_addModifiers 83 = .ok (.invokevirtual 121, 3) := by decide +kernel
theorem d_M_addModifiers_86 : decode b_M_addModifiers 86 = .ok (.aload_n 0, 1) := by decide +kernel
theorem d_M_addModifiers_87 : decode b_M_addModifiers 87 = .ok (.iload_n 2, 1) := by decide +kernel
theorem d_M_addModifiers_88 : decode b_M_addModifiers 88 = .ok (.bipush 8, 2) := by decide +kernel
theorem d_M_addModifiers_90 : decode b_M_addModifiers 90 = .ok (.iand, 1) := by decide +kernel
theorem d_M_addModifiers_91 : decode b_M_addModifiers 91 = .ok (.ifCond .eq 7, 3) := by decide +kernel
theorem d_M_addModifiers_94 : decode b_M_addModifiers 94 = .ok (.iconst 1, 1) := by decide +kernel
theorem d_M_addModifiers_95 : decode b_M_addModifiers 95 = .ok (.goto 4, 3) := by decide +kernel
theorem d_M_addModifiers_98 : decode b_M_addModifiers 98 = .ok (.iconst 0, 1) := by decide +kernel
theorem d_M_addModifiers_99 : decode b_M_addModifiers 99 = .ok (.ldc2_w 133, 3) := by decide +kernel
theorem d_M_addModifiers_102 : decode b_M_addModifiers 102 = .ok (.lconst 0, 1) := by decide +kernel
theorem d_M_addModifiers_103 : decode b_M_addModifiers 103 = .ok (.invokevirtual 121, 3) := by decide +kernel
theorem d_M_addModifiers_106 : decode b_M_addModifiers 106 = .ok (.aload_n 0, 1) := by decide +kernel
theorem d_M_addModifiers_107 : decode b_M_addModifiers 107 = .ok (.iload_n 2, 1) := by decide +kernel
theorem d_M_addModifiers_108 : decode b_M_addModifiers 108 = .ok (.bipush 16, 2) := by decide +kernel
theorem d_M_addModifiers_110 : decode b_M_addModifiers 110 = .ok (.iand, 1) := by decide +kernel
theorem d_M_addModifiers_111 : decode b_M_addModifiers 111 = .ok (.ifCond .eq 7, 3) := by decide +kernel
theorem d_M_addModifiers_114 : decode b_M_addModifiers 114 = .ok (.iconst 1, 1) := by decide +kernel
theorem d_M_addModifiers_115 : decode b_M_addModifiers 115 = .ok (.goto 4, 3) := by decide +kernel
theorem d_M_addModifiers_118 : decode b_M_addModifiers 118 = .ok (.iconst 0, 1) := by decide +kernel
theorem d_M_addModifiers_119 : decode b_M_addModifiers 119 = .ok (.ldc2_w 135, 3) := by decide +kernel
theorem d_M_addModifiers_122 : decode b_M_addModifiers 122 = .ok (.lconst 0, 1) := by decide +kernel
theorem d_M_addModifiers_123 : decode b_M_addModifiers 123 = .ok (.invokevirtual 121, 3) := by decide +kernel
theorem d_M_addModifiers_126 : decode b_M_addModifiers 126 = .ok (.aload_n 0, 1) := by decide +kernel
theorem d_M_addModifiers_127 : decode b_M_addModifiers 127 = .ok (.iload_n 2, 1) := by decide +kernel
theorem d_M_addModifiers_128 : decode b_M_addModifiers 128 = .ok (.sipush 512, 3) := by decide +kernel
theorem d_M_addModifiers_131 : decode b_M_addModifiers 131 = .ok (.iand, 1) := by decide +kernel
theorem d_M_addModifiers_132 : decode b_M_addModifiers 132 = .ok (.ifCond .eq 7, 3) := by decide +kernel
theorem d_M_addModifiers_135 : decode b_M_addModifiers 135 = .ok (.iconst 1, 1) := by decide +kernel
theorem d_M_addModifiers_136 : decode b_M_addModifiers 136 = .ok (.goto 4, 3) := by decide +kernel
theorem d_M_addModifiers_139 : decode b_M_addModifiers 139 = .ok (.iconst 0, 1) := by decide +kernel
theorem d_M_addModifiers_140 : decode b_M_addModifiers 140 = .ok (.ldc2_w 137, 3) := by decide +kernel
theorem d_M_addModifiers_143 : decode b_M_addModifiers 143 = .ok (.ldc2_w 139, 3) := by decide +kernel
theorem d_M_addModifiers_146 : decode b_M_addModifiers 146 = .ok (.invokevirtual 121, 3) := by decide +kernel
theorem d_M_addModifiers_149 : decode b_M_addModifiers 149 = .ok (.return_, 1) := by decide +kernel
theorem d_M_modifiers_0 : decode b_M_modifiers 0 = .ok (.iload_n 1, 1) := by decide +kernel
theorem d_M_modifiers_1 : decode b_M_modifiers 1 = .ok (.bipush 40, 2) := by decide +kernel
theorem d_M_modifiers_3 : decode b_M_modifiers 3 = .ok (.if_icmp .lt 18, 3) := by decide +kernel
theorem d_M_modifiers_6 : decode b_M_modifiers 6 = .ok (.sipush 1040, 3) := by decide +kernel
theorem d_M_modifiers_9 : decode b_M_modifiers 9 = .ok (.iload_n 1, 1) := by decide +kernel
theorem d_M_modifiers_10 : decode b_M_modifiers 10 = .ok (.invokestatic 141, 3) := by decide +kernel
theorem d_M_modifiers_13 : decode b_M_modifiers 13 = .ok (.invokestatic 177, 3) := by decide +kernel
theorem d_M_modifiers_16 : decode b_M_modifiers 16 = .ok (.bipush 7, 2) := by decide +kernel
theorem d_M_modifiers_18 : decode b_M_modifiers 18 = .ok (.iand, 1) := by decide +kernel
theorem d_M_modifiers_19 : decode b_M_modifiers 19 = .ok (.iadd, 1) := by decide +kernel
theorem d_M_modifiers_20 : decode b_M_modifiers 20 = .ok (.ireturn, 1) := by decide +kernel
theorem d_M_modifiers_21 : decode b_M_modifiers 21 = .ok (.iload_n 1, 1) := by decide +kernel
theorem d_M_modifiers_22 : decode b_M_modifiers 22 = .ok (.invokestatic 177, 3) := by decide +kernel
theorem d_M_modifiers_25 : decode b_M_modifiers 25 = .ok (.ireturn, 1) := by decide +kernel
theorem d_M_plainModifiers_0 : decode b_M_plainModifiers 0 = .ok (.iload_n 0, 1) := by decide +kernel
theorem d_M_plainModifiers_1 : decode b_M_plainModifiers 1 = .ok (.bipush 9, 2) := by decide +kernel
theorem d_M_plainModifiers_3 : decode b_M_plainModifiers 3 = .ok (.if_icmp .ge 7, 3) := by decide +kernel
theorem d_M_plainModifiers_6 : decode b_M_plainModifiers 6 = .ok (.sipush 1041, 3) := by decide +kernel
theorem d_M_plainModifiers_9 : decode b_M_plainModifiers 9 = .ok (.ireturn, 1) := by decide +kernel
theorem d_M_plainModifiers_10 : decode b_M_plainModifiers 10 = .ok (.bipush 16, 2) := by decide +kernel
theorem d_M_plainModifiers_12 : decode b_M_plainModifiers 12 = .ok (.newarray .int, 2) := by decide +kernel
theorem d_M_plainModifiers_14 : decode b_M_plainModifiers 14 = .ok (.dup, 1) := by decide +kernel
theorem d_M_plainModifiers_15 : decode b_M_plainModifiers 15 = .ok (.iconst 0, 1) := by decide +kernel
theorem d_M_plainModifiers_16 : decode b_M_plainModifiers 16 = .ok (.iconst 1, 1) := by decide +kernel
theorem d_M_plainModifiers_17 : decode b_M_plainModifiers 17 = .ok (.iastore, 1) := by decide +kernel
theorem d_M_plainModifiers_18 : decode b_M_plainModifiers 18 = .ok (.dup, 1) := by decide +kernel
theorem d_M_plainModifiers_19 : decode b_M_plainModifiers 19 = .ok (.iconst 1, 1) := by decide +kernel
theorem d_M_plainModifiers_20 : decode b_M_plainModifiers 20 = .ok (.sipush 1537, 3) := by decide +kernel
theorem d_M_plainModifiers_23 : decode b_M_plainModifiers 23 = .ok (.iastore, 1) := by decide +kernel
theorem d_M_plainModifiers_24 : decode b_M_plainModifiers 24 = .ok (.dup, 1) := by decide +kernel
theorem d_M_plainModifiers_25 : decode b_M_plainModifiers 25 = .ok (.iconst 2, 1) := by decide +kernel
theorem d_M_plainModifiers_26 : decode b_M_plainModifiers 26 = .ok (.bipush 17, 2) := by decide +kernel
theorem d_M_plainModifiers_28 : decode b_M_plainModifiers 28 = .ok (.iastore, 1) := by decide +kernel
theorem d_M_plainModifiers_29 : decode b_M_plainModifiers 29 = .ok (.dup, 1) := by decide +kernel
theorem d_M_plainModifiers_30 : decode b_M_plainModifiers 30 = .ok (.iconst 3, 1) := by decide +kernel
theorem d_M_plainModifiers_31 : decode b_M_plainModifiers 31 = .ok (.sipush 1544, 3) := by decide +kernel
theorem d_M_plainModifiers_34 : decode b_M_plainModifiers 34 = .ok (.iastore, 1) := by decide +kernel
theorem d_M_plainModifiers_35 : decode b_M_plainModifiers 35 = .ok (.dup, 1) := by decide +kernel
theorem d_M_plainModifiers_36 : decode b_M_plainModifiers 36 = .ok (.iconst 4, 1) := by decide +kernel
theorem d_M_plainModifiers_37 : decode b_M_plainModifiers 37 = .ok (.sipush 1544, 3) := by decide +kernel
theorem d_M_plainModifiers_40 : decode b_M_plainModifiers 40 = .ok (.iastore, 1) := by decide +kernel
theorem d_M_plainModifiers_41 : decode b_M_plainModifiers 41 = .ok (.dup, 1) := by decide +kernel
theorem d_M_plainModifiers_42 : decode b_M_plainModifiers 42 = .ok (.iconst 5, 1) := by decide +kernel
theorem d_M_plainModifiers_43 : decode b_M_plainModifiers 43 = .ok (.bipush 24, 2) := by decide +kernel
theorem d_M_plainModifiers_45 : decode b_M_plainModifiers 45 = .ok (.iastore, 1) := by decide +kernel
theorem d_M_plainModifiers_46 : decode b_M_plainModifiers 46 = .ok (.dup, 1) := by decide +kernel
theorem d_M_plainModifiers_47 : decode b_M_plainModifiers 47 = .ok (.bipush 6, 2) := by decide +kernel
theorem d_M_plainModifiers_49 : decode b_M_plainModifiers 49 = .ok (.bipush 24, 2) := by decide +kernel
theorem d_M_plainModifiers_51 : decode b_M_plainModifiers 51 = .ok (.iastore, 1) := by decide +kernel
theorem d_M_plainModifiers_52 : decode b_M_plainModifiers 52 = .ok (.dup, 1) := by decide +kernel
theorem d_M_plainModifiers_53 : decode b_M_plainModifiers 53 = .ok (.bipush 7, 2) := by decide +kernel
theorem d_M_plainModifiers_55 : decode b_M_plainModifiers 55 = .ok (.sipush 16392, 3) := by decide +kernel
theorem d_M_plainModifiers_58 : decode b_M_plainModifiers 58 = .ok (.iastore, 1) := by decide +kernel
theorem d_M_plainModifiers_59 : decode b_M_plainModifiers 59 = .ok (.dup, 1) := by decide +kernel
theorem d_M_plainModifiers_60 : decode b_M_plainModifiers 60 = .ok (.bipush 8, 2) := by decide +kernel
theorem d_M_plainModifiers_62 : decode b_M_plainModifiers 62 = .ok (.sipush 16400, 3) := by decide +kernel
theorem d_M_plainModifiers_65 : decode b_M_plainModifiers 65 = .ok (.iastore, 1) := by decide +kernel
theorem d_M_plainModifiers_66 : decode b_M_plainModifiers 66 = .ok (.dup, 1) := by decide +kernel
theorem d_M_plainModifiers_67 : decode b_M_plainModifiers 67 = .ok (.bipush 9, 2) := by decide +kernel
theorem d_M_plainModifiers_69 : decode b_M_plainModifiers 69 = .ok (.iconst 2, 1) := by decide +kernel
theorem d_M_plainModifiers_70 : decode b_M_plainModifiers 70 = .ok (.iastore, 1) := by decide +kernel
theorem d_M_plainModifiers_71 : decode b_M_plainModifiers 71 = .ok (.dup, 1) := by decide +kernel
theorem d_M_plainModifiers_72 : decode b_M_plainModifiers 72 = .ok (.bipush 10, 2) := by decide +kernel
theorem d_M_plainModifiers_74 : decode b_M_plainModifiers 74 = .ok (.iconst 4, 1) := by decide +kernel
theorem d_M_plainModifiers_75 : decode b_M_plainModifiers 75 = .ok (.iastore, 1) := by decide +kernel
theorem d_M_plainModifiers_76 : decode b_M_plainModifiers 76 = .ok (.dup, 1) := by decide +kernel
theorem d_M_plainModifiers_77 : decode b_M_plainModifiers 77 = .ok (.bipush 11, 2) := by decide +kernel
theorem d_M_plainModifiers_79 : decode b_M_plainModifiers 79 = .ok (.sipush 9736, 3) := by decide +kernel
theorem d_M_plainModifiers_82 : decode b_M_plainModifiers 82 = .ok (.iastore, 1) := by decide +kernel
theorem d_M_plainModifiers_83 : decode b_M_plainModifiers 83 = .ok (.dup, 1) := by decide +kernel
theorem d_M_plainModifiers_84 : decode b_M_plainModifiers 84 = .ok (.bipush 12, 2) := by decide +kernel
theorem d_M_plainModifiers_86 : decode b_M_plainModifiers 86 = .ok (.sipush 1032, 3) := by decide +kernel
theorem d_M_plainModifiers_89 : decode b_M_plainModifiers 89 = .ok (.iastore, 1) := by decide +kernel
theorem d_M_plainModifiers_90 : decode b_M_plainModifiers 90 = .ok (.dup, 1) := by decide +kernel
theorem d_M_plainModifiers_91 : decode b_M_plainModifiers 91 = .ok (.bipush 13, 2) := by decide +kernel
theorem d_M_plainModifiers_93 : decode b_M_plainModifiers 93 = .ok (.bipush 8, 2) := by decide +kernel
theorem d_M_plainModifiers_95 : decode b_M_plainModifiers 95 = .ok (.iastore, 1) := by decide +kernel
theorem d_M_plainModifiers_96 : decode b_M_plainModifiers 96 = .ok (.dup, 1) := by decide +kernel
theorem d_M_plainModifiers_97 : decode b_M_plainModifiers 97 = .ok (.bipush 14, 2) := by decide +kernel
theorem d_M_plainModifiers_99 : decode b_M_plainModifiers 99 = .ok (.iconst 0, 1) := by decide +kernel
theorem d_M_plainModifiers_100 : decode b_M_plainModifiers 100 = .ok (.iastore, 1) := by decide +kernel
theorem d_M_plainModifiers_101 : decode b_M_plainModifiers 101 = .ok (.dup, 1) := by decide +kernel
theorem d_M_plainModifiers_102 : decode b_M_plainModifiers 102 = .ok (.bipush 15, 2) := by decide +kernel
theorem d_M_plainModifiers_104 : decode b_M_plainModifiers 104 = .ok (.iconst 0, 1) := by decide +kernel
theorem d_M_plainModifiers_105 : decode b_M_plainModifiers 105 = .ok (.iastore, 1) := by decide +kernel
theorem d_M_plainModifiers_106 : decode b_M_plainModifiers 106 = .ok (.astore_n 1, 1) := by decide +kernel
theorem d_M_plainModifiers_107 : decode b_M_plainModifiers 107 = .ok (.aload_n 1, 1) := by decide +kernel
theorem d_M_plainModifiers_108 : decode b_M_plainModifiers 108 = .ok (.iload_n 0, 1) := by decide +kernel
theorem d_M_plainModifiers_109 : decode b_M_plainModifiers 109 = .ok (.bipush 9, 2) := by decide +kernel
theorem d_M_plainModifiers_111 : decode b_M_plainModifiers 111 = .ok (.isub, 1) := by decide +kernel
theorem d_M_plainModifiers_112 : decode b_M_plainModifiers 112 = .ok (.iaload, 1) := by decide +kernel
theorem d_M_plainModifiers_113 : decode b_M_plainModifiers 113 = .ok (.ireturn, 1) := by decide +kernel
theorem d_M_size_0 : decode b_M_size 0 = .ok (.iload_n 1, 1) := by decide +kernel
theorem d_M_size_1 : decode b_M_size 1 = .ok (.invokestatic 167, 3) := by decide +kernel
theorem d_M_size_4 : decode b_M_size 4 = .ok (.ifCond .eq 13, 3) := by decide +kernel
theorem d_M_size_7 : decode b_M_size 7 = .ok (.iload_n 2, 1) := by decide +kernel
theorem d_M_size_8 : decode b_M_size 8 = .ok (.iconst 0, 1) := by decide +kernel
theorem d_M_size_9 : decode b_M_size 9 = .ok (.bipush 7, 2) := by decide +kernel
theorem d_M_size_11 : decode b_M_size 11 = .ok (.invokestatic 26, 3) := by decide +kernel
theorem d_M_size_14 : decode b_M_size 14 = .ok (.ifCond .ne 5, 3) := by decide +kernel
theorem d_M_size_17 : decode b_M_size 17 = .ok (.iconst (-1), 1) := by decide +kernel
theorem d_M_size_18 : decode b_M_size 18 = .ok (.ireturn, 1) := by decide +kernel
theorem d_M_size_19 : decode b_M_size 19 = .ok (.aload_n 0, 1) := by decide +kernel
theorem d_M_size_20 : decode b_M_size 20 = .ok (.iload_n 1, 1) := by decide +kernel
theorem d_M_size_21 : decode b_M_size 21 = .ok (.iload_n 2, 1) := by decide +kernel
theorem d_M_size_22 : decode b_M_size 22 = .ok (.invokevirtual 170, 3) := by decide +kernel
theorem d_M_size_25 : decode b_M_size 25 = .ok (.ifCond .eq 10, 3) := by decide +kernel
theorem d_M_size_28 : decode b_M_size 28 = .ok (.aload_n 0, 1) := by decide +kernel
theorem d_M_size_29 : decode b_M_size 29 = .ok (.getfield 76, 3) := by decide +kernel
theorem d_M_size_32 : decode b_M_size 32 = .ok (.goto 5, 3) := by decide +kernel
theorem d_M_size_35 : decode b_M_size 35 = .ok (.bipush (-2), 2) := by decide +kernel
theorem d_M_size_37 : decode b_M_size 37 = .ok (.ireturn, 1) := by decide +kernel
theorem d_M_flag_0 : decode b_M_flag 0 = .ok (.iload_n 1, 1) := by decide +kernel
theorem d_M_flag_1 : decode b_M_flag 1 = .ok (.invokestatic 167, 3) := by decide +kernel
theorem d_M_flag_4 : decode b_M_flag 4 = .ok (.ifCond .ne 5, 3) := by decide +kernel
theorem d_M_flag_7 : decode b_M_flag 7 = .ok (.iconst 0, 1) := by decide +kernel
theorem d_M_flag_8 : decode b_M_flag 8 = .ok (.ireturn, 1) := by decide +kernel
theorem d_M_flag_9 : decode b_M_flag 9 = .ok (.iload_n 2, 1) := by decide +kernel
theorem d_M_flag_10 : decode b_M_flag 10 = .ok (.tableswitch 152 0 9 #[54, 66, 71, 76, 88, 100, 112, 130, 135, 147], 54) := by decide +kernel
theorem d_M_flag_64 : decode b_M_flag 64 = .ok (.iload_n 1, 1) := by decide +kernel
theorem d_M_flag_65 : decode b_M_flag 65 = .ok (.bipush 40, 2) := by decide +kernel
theorem d_M_flag_67 : decode b_M_flag 67 = .ok (.if_icmp .lt 7, 3) := by decide +kernel
theorem d_M_flag_70 : decode b_M_flag 70 = .ok (.iconst 1, 1) := by decide +kernel
theorem d_M_flag_71 : decode b_M_flag 71 = .ok (.goto 4, 3) := by decide +kernel
theorem d_M_flag_74 : decode b_M_flag 74 = .ok (.iconst 0, 1) := by decide +kernel
theorem d_M_flag_75 : decode b_M_flag 75 = .ok (.ireturn, 1) := by decide +kernel
theorem d_M_flag_76 : decode b_M_flag 76 = .ok (.iload_n 1, 1) := by decide +kernel
theorem d_M_flag_77 : decode b_M_flag 77 = .ok (.invokestatic 102, 3) := by decide +kernel
theorem d_M_flag_80 : decode b_M_flag 80 = .ok (.ireturn, 1) := by decide +kernel
theorem d_M_flag_81 : decode b_M_flag 81 = .ok (.iload_n 1, 1) := by decide +kernel
theorem d_M_flag_82 : decode b_M_flag 82 = .ok (.invokestatic 159, 3) := by decide +kernel
theorem d_M_flag_85 : decode b_M_flag 85 = .ok (.ireturn, 1) := by decide +kernel
theorem d_M_flag_86 : decode b_M_flag 86 = .ok (.iload_n 1, 1) := by decide +kernel
theorem d_M_flag_87 : decode b_M_flag 87 = .ok (.bipush 20, 2) := by decide +kernel
theorem d_M_flag_89 : decode b_M_flag 89 = .ok (.if_icmp .ne 7, 3) := by decide +kernel
theorem d_M_flag_92 : decode b_M_flag 92 = .ok (.iconst 1, 1) := by decide +kernel
theorem d_M_flag_93 : decode b_M_flag 93 = .ok (.goto 4, 3) := by decide +kernel
theorem d_M_flag_96 : decode b_M_flag 96 = .ok (.iconst 0, 1) := by decide +kernel
theorem d_M_flag_97 : decode b_M_flag 97 = .ok (.ireturn, 1) := by decide +kernel
theorem d_M_flag_98 : decode b_M_flag 98 = .ok (.iload_n 1, 1) := by decide +kernel
theorem d_M_flag_99 : decode b_M_flag 99 = .ok (.bipush 16, 2) := by decide +kernel
theorem d_M_flag_101 : decode b_M_flag 101 = .ok (.if_icmp .ne 7, 3) := by decide +kernel
theorem d_M_flag_104 : decode b_M_flag 104 = .ok (.iconst 1, 1) := by decide +kernel
theorem d_M_flag_105 : decode b_M_flag 105 = .ok (.goto 4, 3) := by decide +kernel
theorem d_M_flag_108 : decode b_M_flag 108 = .ok (.iconst 0, 1) := by decide +kernel
theorem d_M_flag_109 : decode b_M_flag 109 = .ok (.ireturn, 1) := by decide +kernel
theorem d_M_flag_110 : decode b_M_flag 110 = .ok (.iload_n 1, 1) := by decide +kernel
theorem d_M_flag_111 : decode b_M_flag 111 = .ok (.bipush 14, 2) := by decide +kernel
theorem d_M_flag_113 : decode b_M_flag 113 = .ok (.if_icmp .ne 7, 3) := by decide +kernel
theorem d_M_flag_116 : decode b_M_flag 116 = .ok (.iconst 1, 1) := by decide +kernel
theorem d_M_flag_117 : decode b_M_flag 117 = .ok (.goto 4, 3) := by decide +kernel
theorem d_M_flag_120 : decode b_M_flag 120 = .ok (.iconst 0, 1) := by decide +kernel
theorem d_M_flag_121 : decode b_M_flag 121 = .ok (.ireturn, 1) := by decide +kernel
theorem d_M_flag_122 : decode b_M_flag 122 = .ok (.iload_n 1, 1) := by decide +kernel
theorem d_M_flag_123 : decode b_M_flag 123 = .ok (.bipush 13, 2) := by decide +kernel
theorem d_M_flag_125 : decode b_M_flag 125 = .ok (.if_icmp .eq 9, 3) := by decide +kernel
theorem d_M_flag_128 : decode b_M_flag 128 = .ok (.iload_n 1, 1) := by decide +kernel
theorem d_M_flag_129 : decode b_M_flag 129 = .ok (.bipush 16, 2) := by decide +kernel
theorem d_M_flag_131 : decode b_M_flag 131 = .ok (.if_icmp .ne 7, 3) := by decide +kernel
theorem d_M_flag_134 : decode b_M_flag 134 = .ok (.iconst 1, 1) := by decide +kernel
theorem d_M_flag_135 : decode b_M_flag 135 = .ok (.goto 4, 3) := by decide +kernel
theorem d_M_flag_138 : decode b_M_flag 138 = .ok (.iconst 0, 1) := by decide +kernel
theorem d_M_flag_139 : decode b_M_flag 139 = .ok (.ireturn, 1) := by decide +kernel
theorem d_M_flag_140 : decode b_M_flag 140 = .ok (.iload_n 1, 1) := by decide +kernel
theorem d_M_flag_141 : decode b_M_flag 141 = .ok (.invokestatic 151, 3) := by decide +kernel
theorem d_M_flag_144 : decode b_M_flag 144 = .ok (.ireturn, 1) := by decide +kernel
theorem d_M_flag_145 : decode b_M_flag 145 = .ok (.iload_n 1, 1) := by decide +kernel
theorem d_M_flag_146 : decode b_M_flag 146 = .ok (.bipush 23, 2) := by decide +kernel
theorem d_M_flag_148 : decode b_M_flag 148 = .ok (.if_icmp .ne 7, 3) := by decide +kernel
theorem d_M_flag_151 : decode b_M_flag 151 = .ok (.iconst 1, 1) := by decide +kernel
theorem d_M_flag_152 : decode b_M_flag 152 = .ok (.goto 4, 3) := by decide +kernel
theorem d_M_flag_155 : decode b_M_flag 155 = .ok (.iconst 0, 1) := by decide +kernel
theorem d_M_flag_156 : decode b_M_flag 156 = .ok (.ireturn, 1) := by decide +kernel
theorem d_M_flag_157 : decode b_M_flag 157 = .ok (.iload_n 1, 1) := by decide +kernel
theorem d_M_flag_158 : decode b_M_flag 158 = .ok (.invokestatic 174, 3) := by decide +kernel
theorem d_M_flag_161 : decode b_M_flag 161 = .ok (.ireturn, 1) := by decide +kernel
theorem d_M_flag_162 : decode b_M_flag 162 = .ok (.iload_n 2, 1) := by decide +kernel
theorem d_M_flag_163 : decode b_M_flag 163 = .ok (.bipush 10, 2) := by decide +kernel
theorem d_M_flag_165 : decode b_M_flag 165 = .ok (.if_icmp .ne 19, 3) := by decide +kernel
theorem d_M_flag_168 : decode b_M_flag 168 = .ok (.iload_n 1, 1) := by decide +kernel
theorem d_M_flag_169 : decode b_M_flag 169 = .ok (.bipush 23, 2) := by decide +kernel
theorem d_M_flag_171 : decode b_M_flag 171 = .ok (.if_icmp .eq 9, 3) := by decide +kernel
theorem d_M_flag_174 : decode b_M_flag 174 = .ok (.iload_n 1, 1) := by decide +kernel
theorem d_M_flag_175 : decode b_M_flag 175 = .ok (.bipush 24, 2) := by decide +kernel
theorem d_M_flag_177 : decode b_M_flag 177 = .ok (.if_icmp .ne 7, 3) := by decide +kernel
theorem d_M_flag_180 : decode b_M_flag 180 = .ok (.iconst 1, 1) := by decide +kernel
theorem d_M_flag_181 : decode b_M_flag 181 = .ok (.goto 4, 3) := by decide +kernel
theorem d_M_flag_184 : decode b_M_flag 184 = .ok (.iconst 0, 1) := by decide +kernel
theorem d_M_flag_185 : decode b_M_flag 185 = .ok (.ireturn, 1) := by decide +kernel
theorem d_M_member_0 : decode b_M_member 0 = .ok (.iload_n 0, 1) := by decide +kernel
theorem d_M_member_1 : decode b_M_member 1 = .ok (.bipush 12, 2) := by decide +kernel
theorem d_M_member_3 : decode b_M_member 3 = .ok (.bipush 22, 2) := by decide +kernel
theorem d_M_member_5 : decode b_M_member 5 = .ok (.invokestatic 26, 3) := by decide +kernel
theorem d_M_member_8 : decode b_M_member 8 = .ok (.ifCond .eq 13, 3) := by decide +kernel
theorem d_M_member_11 : decode b_M_member 11 = .ok (.iload_n 0, 1) := by decide +kernel
theorem d_M_member_12 : decode b_M_member 12 = .ok (.bipush 17, 2) := by decide +kernel
theorem d_M_member_14 : decode b_M_member 14 = .ok (.if_icmp .eq 7, 3) := by decide +kernel
theorem d_M_member_17 : decode b_M_member 17 = .ok (.iconst 1, 1) := by decide +kernel
theorem d_M_member_18 : decode b_M_member 18 = .ok (.goto 4, 3) := by decide +kernel
theorem d_M_member_21 : decode b_M_member 21 = .ok (.iconst 0, 1) := by decide +kernel
theorem d_M_member_22 : decode b_M_member 22 = .ok (.ireturn, 1) := by decide +kernel
theorem d_M_number_0 : decode b_M_number 0 = .ok (.iload_n 1, 1) := by decide +kernel
theorem d_M_number_1 : decode b_M_number 1 = .ok (.invokestatic 167, 3) := by decide +kernel
theorem d_M_number_4 : decode b_M_number 4 = .ok (.ifCond .eq 13, 3) := by decide +kernel
theorem d_M_number_7 : decode b_M_number 7 = .ok (.iload_n 2, 1) := by decide +kernel
theorem d_M_number_8 : decode b_M_number 8 = .ok (.iconst 0, 1) := by decide +kernel
theorem d_M_number_9 : decode b_M_number 9 = .ok (.bipush 7, 2) := by decide +kernel
theorem d_M_number_11 : decode b_M_number 11 = .ok (.invokestatic 26, 3) := by decide +kernel
theorem d_M_number_14 : decode b_M_number 14 = .ok (.ifCond .ne 5, 3) := by decide +kernel
theorem d_M_number_17 : decode b_M_number 17 = .ok (.iconst (-1), 1) := by decide +kernel
theorem d_M_number_18 : decode b_M_number 18 = .ok (.ireturn, 1) := by decide +kernel
theorem d_M_number_19 : decode b_M_number 19 = .ok (.iload_n 2, 1) := by decide +kernel
theorem d_M_number_20 : decode b_M_number 20 = .ok (.tableswitch 186 0 6 #[44, 50, 102, 114, 127, 140, 163], 44) := by decide +kernel
theorem d_M_number_64 : decode b_M_number 64 = .ok (.aload_n 0, 1) := by decide +kernel
theorem d_M_number_65 : decode b_M_number 65 = .ok (.iload_n 1, 1) := by decide +kernel
theorem d_M_number_66 : decode b_M_number 66 = .ok (.invokevirtual 116, 3) := by decide +kernel
theorem d_M_number_69 : decode b_M_number 69 = .ok (.ireturn, 1) := by decide +kernel
theorem d_M_number_70 : decode b_M_number 70 = .ok (.iload_n 1, 1) := by decide +kernel
theorem d_M_number_71 : decode b_M_number 71 = .ok (.bipush 40, 2) := by decide +kernel
theorem d_M_number_73 : decode b_M_number 73 = .ok (.if_icmp .ge 9, 3) := by decide +kernel
theorem d_M_number_76 : decode b_M_number 76 = .ok (.iload_n 1, 1) := by decide +kernel
theorem d_M_number_77 : decode b_M_number 77 = .ok (.bipush 15, 2) := by decide +kernel
theorem d_M_number_79 : decode b_M_number 79 = .ok (.if_icmp .ne 7, 3) := by decide +kernel
theorem d_M_number_82 : decode b_M_number 82 = .ok (.iconst 2, 1) := by decide +kernel
theorem d_M_number_83 : decode b_M_number 83 = .ok (.goto 38, 3) := by decide +kernel
theorem d_M_number_86 : decode b_M_number 86 = .ok (.iload_n 1, 1) := by decide +kernel
theorem d_M_number_87 : decode b_M_number 87 = .ok (.bipush 14, 2) := by decide +kernel
theorem d_M_number_89 : decode b_M_number 89 = .ok (.if_icmp .eq 27, 3) := by decide +kernel
theorem d_M_number_92 : decode b_M_number 92 = .ok (.iload_n 1, 1) := by decide +kernel
theorem d_M_number_93 : decode b_M_number 93 = .ok (.bipush 20, 2) := by decide +kernel
theorem d_M_number_95 : decode b_M_number 95 = .ok (.if_icmp .eq 21, 3) := by decide +kernel
theorem d_M_number_98 : decode b_M_number 98 = .ok (.iload_n 1, 1) := by decide +kernel
theorem d_M_number_99 : decode b_M_number 99 = .ok (.bipush 21, 2) := by decide +kernel
theorem d_M_number_101 : decode b_M_number 101 = .ok (.if_icmp .eq 15, 3) := by decide +kernel
theorem d_M_number_104 : decode b_M_number 104 = .ok (.iload_n 1, 1) := by decide +kernel
theorem d_M_number_105 : decode b_M_number 105 = .ok (.bipush 23, 2) := by decide +kernel
theorem d_M_number_107 : decode b_M_number 107 = .ok (.if_icmp .eq 9, 3) := by decide +kernel
theorem d_M_number_110 : decode b_M_number 110 = .ok (.iload_n 1, 1) := by decide +kernel
theorem d_M_number_111 : decode b_M_number 111 = .ok (.bipush 24, 2) := by decide +kernel
theorem d_M_number_113 : decode b_M_number 113 = .ok (.if_icmp .ne 7, 3) := by decide +kernel
theorem d_M_number_116 : decode b_M_number 116 = .ok (.iconst 1, 1) := by decide +kernel
theorem d_M_number_117 : decode b_M_number 117 = .ok (.goto 4, 3) := by decide +kernel
theorem d_M_number_120 : decode b_M_number 120 = .ok (.iconst 0, 1) := by decide +kernel
theorem d_M_number_121 : decode b_M_number 121 = .ok (.ireturn, 1) := by decide +kernel
theorem d_M_number_122 : decode b_M_number 122 = .ok (.iload_n 1, 1) := by decide +kernel
theorem d_M_number_123 : decode b_M_number 123 = .ok (.bipush 21, 2) := by decide +kernel
theorem d_M_number_125 : decode b_M_number 125 = .ok (.if_icmp .ne 7, 3) := by decide +kernel
theorem d_M_number_128 : decode b_M_number 128 = .ok (.iconst 1, 1) := by decide +kernel
theorem d_M_number_129 : decode b_M_number 129 = .ok (.goto 4, 3) := by decide +kernel
theorem d_M_number_132 : decode b_M_number 132 = .ok (.iconst 0, 1) := by decide +kernel
theorem d_M_number_133 : decode b_M_number 133 = .ok (.ireturn, 1) := by decide +kernel
theorem d_M_number_134 : decode b_M_number 134 = .ok (.iload_n 1, 1) := by decide +kernel
theorem d_M_number_135 : decode b_M_number 135 = .ok (.bipush 16, 2) := by decide +kernel
theorem d_M_number_137 : decode b_M_number 137 = .ok (.if_icmp .ne 7, 3) := by decide +kernel
theorem d_M_number_140 : decode b_M_number 140 = .ok (.iconst 2, 1) := by decide +kernel
theorem d_M_number_141 : decode b_M_number 141 = .ok (.goto 5, 3) := by decide +kernel
theorem d_M_number_144 : decode b_M_number 144 = .ok (.bipush (-2), 2) := by decide +kernel
theorem d_M_number_146 : decode b_M_number 146 = .ok (.ireturn, 1) := by decide +kernel
theorem d_M_number_147 : decode b_M_number 147 = .ok (.iload_n 1, 1) := by decide +kernel
theorem d_M_number_148 : decode b_M_number 148 = .ok (.bipush 14, 2) := by decide +kernel
theorem d_M_number_150 : decode b_M_number 150 = .ok (.if_icmp .ne 7, 3) := by decide +kernel
theorem d_M_number_153 : decode b_M_number 153 = .ok (.iconst 1, 1) := by decide +kernel
theorem d_M_number_154 : decode b_M_number 154 = .ok (.goto 5, 3) := by decide +kernel
theorem d_M_number_157 : decode b_M_number 157 = .ok (.bipush (-2), 2) := by decide +kernel
theorem d_M_number_159 : decode b_M_number 159 = .ok (.ireturn, 1) := by decide +kernel
theorem d_M_number_160 : decode b_M_number 160 = .ok (.iload_n 1, 1) := by decide +kernel
theorem d_M_number_161 : decode b_M_number 161 = .ok (.bipush 13, 2) := by decide +kernel
theorem d_M_number_163 : decode b_M_number 163 = .ok (.if_icmp .ne 7, 3) := by decide +kernel
theorem d_M_number_166 : decode b_M_number 166 = .ok (.iconst 2, 1) := by decide +kernel
theorem d_M_number_167 : decode b_M_number 167 = .ok (.goto 15, 3) := by decide +kernel
theorem d_M_number_170 : decode b_M_number 170 = .ok (.iload_n 1, 1) := by decide +kernel
theorem d_M_number_171 : decode b_M_number 171 = .ok (.bipush 16, 2) := by decide +kernel
theorem d_M_number_173 : decode b_M_number 173 = .ok (.if_icmp .ne 7, 3) := by decide +kernel
theorem d_M_number_176 : decode b_M_number 176 = .ok (.iconst 1, 1) := by decide +kernel
theorem d_M_number_177 : decode b_M_number 177 = .ok (.goto 5, 3) := by decide +kernel
theorem d_M_number_180 : decode b_M_number 180 = .ok (.bipush (-2), 2) := by decide +kernel
theorem d_M_number_182 : decode b_M_number 182 = .ok (.ireturn, 1) := by decide +kernel
theorem d_M_number_183 : decode b_M_number 183 = .ok (.iload_n 1, 1) := by decide +kernel
theorem d_M_number_184 : decode b_M_number 184 = .ok (.bipush 11, 2) := by decide +kernel
theorem d_M_number_186 : decode b_M_number 186 = .ok (.if_icmp .ne 8, 3) := by decide +kernel
theorem d_M_number_189 : decode b_M_number 189 = .ok (.bipush 9, 2) := by decide +kernel
theorem d_M_number_191 : decode b_M_number 191 = .ok (.goto 14, 3) := by decide +kernel
theorem d_M_number_194 : decode b_M_number 194 = .ok (.iload_n 1, 1) := by decide +kernel
theorem d_M_number_195 : decode b_M_number 195 = .ok (.bipush 18, 2) := by decide +kernel
theorem d_M_number_197 : decode b_M_number 197 = .ok (.if_icmp .ne 7, 3) := by decide +kernel
theorem d_M_number_200 : decode b_M_number 200 = .ok (.iconst 1, 1) := by decide +kernel
theorem d_M_number_201 : decode b_M_number 201 = .ok (.goto 4, 3) := by decide +kernel
theorem d_M_number_204 : decode b_M_number 204 = .ok (.iconst 0, 1) := by decide +kernel
theorem d_M_number_205 : decode b_M_number 205 = .ok (.ireturn, 1) := by decide +kernel
theorem d_M_number_206 : decode b_M_number 206 = .ok (.iload_n 1, 1) := by decide +kernel
theorem d_M_number_207 : decode b_M_number 207 = .ok (.bipush 9, 2) := by decide +kernel
theorem d_M_number_209 : decode b_M_number 209 = .ok (.if_icmp .eq 9, 3) := by decide +kernel
theorem d_M_number_212 : decode b_M_number 212 = .ok (.iload_n 1, 1) := by decide +kernel
theorem d_M_number_213 : decode b_M_number 213 = .ok (.bipush 10, 2) := by decide +kernel
theorem d_M_number_215 : decode b_M_number 215 = .ok (.if_icmp .ne 7, 3) := by decide +kernel
theorem d_M_number_218 : decode b_M_number 218 = .ok (.iconst (-1), 1) := by decide +kernel
theorem d_M_number_219 : decode b_M_number 219 = .ok (.goto 20, 3) := by decide +kernel
theorem d_M_number_222 : decode b_M_number 222 = .ok (.iload_n 1, 1) := by decide +kernel
theorem d_M_number_223 : decode b_M_number 223 = .ok (.bipush 11, 2) := by decide +kernel
theorem d_M_number_225 : decode b_M_number 225 = .ok (.bipush 24, 2) := by decide +kernel
theorem d_M_number_227 : decode b_M_number 227 = .ok (.invokestatic 26, 3) := by decide +kernel
theorem d_M_number_230 : decode b_M_number 230 = .ok (.ifCond .eq 8, 3) := by decide +kernel
theorem d_M_number_233 : decode b_M_number 233 = .ok (.bipush 14, 2) := by decide +kernel
theorem d_M_number_235 : decode b_M_number 235 = .ok (.goto 4, 3) := by decide +kernel
theorem d_M_number_238 : decode b_M_number 238 = .ok (.iconst 1, 1) := by decide +kernel
theorem d_M_number_239 : decode b_M_number 239 = .ok (.ireturn, 1) := by decide +kernel
theorem d_M_related_0 : decode b_M_related 0 = .ok (.iload_n 1, 1) := by decide +kernel
theorem d_M_related_1 : decode b_M_related 1 = .ok (.invokestatic 167, 3) := by decide +kernel
theorem d_M_related_4 : decode b_M_related 4 = .ok (.ifCond .eq 12, 3) := by decide +kernel
theorem d_M_related_7 : decode b_M_related 7 = .ok (.iload_n 2, 1) := by decide +kernel
theorem d_M_related_8 : decode b_M_related 8 = .ok (.iconst 0, 1) := by decide +kernel
theorem d_M_related_9 : decode b_M_related 9 = .ok (.iconst 5, 1) := by decide +kernel
theorem d_M_related_10 : decode b_M_related 10 = .ok (.invokestatic 26, 3) := by decide +kernel
theorem d_M_related_13 : decode b_M_related 13 = .ok (.ifCond .ne 5, 3) := by decide +kernel
theorem d_M_related_16 : decode b_M_related 16 = .ok (.iconst (-1), 1) := by decide +kernel
theorem d_M_related_17 : decode b_M_related 17 = .ok (.ireturn, 1) := by decide +kernel
theorem d_M_related_18 : decode b_M_related 18 = .ok (.iload_n 2, 1) := by decide +kernel
theorem d_M_related_19 : decode b_M_related 19 = .ok (.ifCond .ne 8, 3) := by decide +kernel
theorem d_M_related_22 : decode b_M_related 22 = .ok (.iload_n 1, 1) := by decide +kernel
theorem d_M_related_23 : decode b_M_related 23 = .ok (.invokestatic 180, 3) := by decide +kernel
theorem d_M_related_26 : decode b_M_related 26 = .ok (.ireturn, 1) := by decide +kernel
theorem d_M_related_27 : decode b_M_related 27 = .ok (.iload_n 2, 1) := by decide +kernel
theorem d_M_related_28 : decode b_M_related 28 = .ok (.iconst 1, 1) := by decide +kernel
theorem d_M_related_29 : decode b_M_related 29 = .ok (.if_icmp .ne 19, 3) := by decide +kernel
theorem d_M_related_32 : decode b_M_related 32 = .ok (.iload_n 1, 1) := by decide +kernel
theorem d_M_related_33 : decode b_M_related 33 = .ok (.bipush 40, 2) := by decide +kernel
theorem d_M_related_35 : decode b_M_related 35 = .ok (.if_icmp .lt 10, 3) := by decide +kernel
theorem d_M_related_38 : decode b_M_related 38 = .ok (.iload_n 1, 1) := by decide +kernel
theorem d_M_related_39 : decode b_M_related 39 = .ok (.bipush 40, 2) := by decide +kernel
theorem d_M_related_41 : decode b_M_related 41 = .ok (.isub, 1) := by decide +kernel
theorem d_M_related_42 : decode b_M_related 42 = .ok (.goto 5, 3) := by decide +kernel
theorem d_M_related_45 : decode b_M_related 45 = .ok (.bipush (-2), 2) := by decide +kernel
theorem d_M_related_47 : decode b_M_related 47 = .ok (.ireturn, 1) := by decide +kernel
theorem d_M_related_48 : decode b_M_related 48 = .ok (.iload_n 2, 1) := by decide +kernel
theorem d_M_related_49 : decode b_M_related 49 = .ok (.iconst 2, 1) := by decide +kernel
theorem d_M_related_50 : decode b_M_related 50 = .ok (.if_icmp .ne 8, 3) := by decide +kernel
theorem d_M_related_53 : decode b_M_related 53 = .ok (.iload_n 1, 1) := by decide +kernel
theorem d_M_related_54 : decode b_M_related 54 = .ok (.invokestatic 183, 3) := by decide +kernel
theorem d_M_related_57 : decode b_M_related 57 = .ok (.ireturn, 1) := by decide +kernel
theorem d_M_related_58 : decode b_M_related 58 = .ok (.iload_n 2, 1) := by decide +kernel
theorem d_M_related_59 : decode b_M_related 59 = .ok (.iconst 3, 1) := by decide +kernel
theorem d_M_related_60 : decode b_M_related 60 = .ok (.if_icmp .ne 20, 3) := by decide +kernel
theorem d_M_related_63 : decode b_M_related 63 = .ok (.iload_n 1, 1) := by decide +kernel
theorem d_M_related_64 : decode b_M_related 64 = .ok (.invokestatic 174, 3) := by decide +kernel
theorem d_M_related_67 : decode b_M_related 67 = .ok (.ifCond .eq 10, 3) := by decide +kernel
theorem d_M_related_70 : decode b_M_related 70 = .ok (.iload_n 1, 1) := by decide +kernel
theorem d_M_related_71 : decode b_M_related 71 = .ok (.invokestatic 183, 3) := by decide +kernel
theorem d_M_related_74 : decode b_M_related 74 = .ok (.goto 5, 3) := by decide +kernel
theorem d_M_related_77 : decode b_M_related 77 = .ok (.bipush (-2), 2) := by decide +kernel
theorem d_M_related_79 : decode b_M_related 79 = .ok (.ireturn, 1) := by decide +kernel
theorem d_M_related_80 : decode b_M_related 80 = .ok (.iload_n 2, 1) := by decide +kernel
theorem d_M_related_81 : decode b_M_related 81 = .ok (.iconst 4, 1) := by decide +kernel
theorem d_M_related_82 : decode b_M_related 82 = .ok (.if_icmp .ne 21, 3) := by decide +kernel
theorem d_M_related_85 : decode b_M_related 85 = .ok (.iload_n 1, 1) := by decide +kernel
theorem d_M_related_86 : decode b_M_related 86 = .ok (.bipush 11, 2) := by decide +kernel
theorem d_M_related_88 : decode b_M_related 88 = .ok (.bipush 24, 2) := by decide +kernel
theorem d_M_related_90 : decode b_M_related 90 = .ok (.invokestatic 26, 3) := by decide +kernel
theorem d_M_related_93 : decode b_M_related 93 = .ok (.ifCond .eq 8, 3) := by decide +kernel
theorem d_M_related_96 : decode b_M_related 96 = .ok (.bipush 11, 2) := by decide +kernel
theorem d_M_related_98 : decode b_M_related 98 = .ok (.goto 4, 3) := by decide +kernel
theorem d_M_related_101 : decode b_M_related 101 = .ok (.iload_n 1, 1) := by decide +kernel
theorem d_M_related_102 : decode b_M_related 102 = .ok (.ireturn, 1) := by decide +kernel
theorem d_M_related_103 : decode b_M_related 103 = .ok (.iload_n 1, 1) := by decide +kernel
theorem d_M_related_104 : decode b_M_related 104 = .ok (.bipush 8, 2) := by decide +kernel
theorem d_M_related_106 : decode b_M_related 106 = .ok (.if_icmp .ne 8, 3) := by decide +kernel
theorem d_M_related_109 : decode b_M_related 109 = .ok (.bipush (-2), 2) := by decide +kernel
theorem d_M_related_111 : decode b_M_related 111 = .ok (.goto 18, 3) := by decide +kernel
theorem d_M_related_114 : decode b_M_related 114 = .ok (.iload_n 1, 1) := by decide +kernel
theorem d_M_related_115 : decode b_M_related 115 = .ok (.bipush 80, 2) := by decide +kernel
theorem d_M_related_117 : decode b_M_related 117 = .ok (.if_icmp .ge 10, 3) := by decide +kernel
theorem d_M_related_120 : decode b_M_related 120 = .ok (.iload_n 1, 1) := by decide +kernel
theorem d_M_related_121 : decode b_M_related 121 = .ok (.bipush 40, 2) := by decide +kernel
theorem d_M_related_123 : decode b_M_related 123 = .ok (.iadd, 1) := by decide +kernel
theorem d_M_related_124 : decode b_M_related 124 = .ok (.goto 5, 3) := by decide +kernel
theorem d_M_related_127 : decode b_M_related 127 = .ok (.bipush (-3), 2) := by decide +kernel
theorem d_M_related_129 : decode b_M_related 129 = .ok (.ireturn, 1) := by decide +kernel
theorem d_M_up_0 : decode b_M_up 0 = .ok (.iload_n 0, 1) := by decide +kernel
theorem d_M_up_1 : decode b_M_up 1 = .ok (.bipush 40, 2) := by decide +kernel
theorem d_M_up_3 : decode b_M_up 3 = .ok (.if_icmp .lt 6, 3) := by decide +kernel
theorem d_M_up_6 : decode b_M_up 6 = .ok (.bipush 9, 2) := by decide +kernel
theorem d_M_up_8 : decode b_M_up 8 = .ok (.ireturn, 1) := by decide +kernel
theorem d_M_up_9 : decode b_M_up 9 = .ok (.iload_n 0, 1) := by decide +kernel
theorem d_M_up_10 : decode b_M_up 10 = .ok (.bipush 10, 2) := by decide +kernel
theorem d_M_up_12 : decode b_M_up 12 = .ok (.if_icmp .lt 10, 3) := by decide +kernel
theorem d_M_up_15 : decode b_M_up 15 = .ok (.iload_n 0, 1) := by decide +kernel
theorem d_M_up_16 : decode b_M_up 16 = .ok (.invokestatic 159, 3) := by decide +kernel
theorem d_M_up_19 : decode b_M_up 19 = .ok (.ifCond .eq 6, 3) := by decide +kernel
theorem d_M_up_22 : decode b_M_up 22 = .ok (.bipush (-2), 2) := by decide +kernel
theorem d_M_up_24 : decode b_M_up 24 = .ok (.ireturn, 1) := by decide +kernel
theorem d_M_up_25 : decode b_M_up 25 = .ok (.iload_n 0, 1) := by decide +kernel
theorem d_M_up_26 : decode b_M_up 26 = .ok (.bipush 14, 2) := by decide +kernel
theorem d_M_up_28 : decode b_M_up 28 = .ok (.if_icmp .eq 9, 3) := by decide +kernel
theorem d_M_up_31 : decode b_M_up 31 = .ok (.iload_n 0, 1) := by decide +kernel
theorem d_M_up_32 : decode b_M_up 32 = .ok (.bipush 16, 2) := by decide +kernel
theorem d_M_up_34 : decode b_M_up 34 = .ok (.if_icmp .ne 6, 3) := by decide +kernel
theorem d_M_up_37 : decode b_M_up 37 = .ok (.bipush (-3), 2) := by decide +kernel
theorem d_M_up_39 : decode b_M_up 39 = .ok (.ireturn, 1) := by decide +kernel
theorem d_M_up_40 : decode b_M_up 40 = .ok (.iload_n 0, 1) := by decide +kernel
theorem d_M_up_41 : decode b_M_up 41 = .ok (.bipush 17, 2) := by decide +kernel
theorem d_M_up_43 : decode b_M_up 43 = .ok (.if_icmp .ne 8, 3) := by decide +kernel
theorem d_M_up_46 : decode b_M_up 46 = .ok (.bipush 16, 2) := by decide +kernel
theorem d_M_up_48 : decode b_M_up 48 = .ok (.goto 27, 3) := by decide +kernel
theorem d_M_up_51 : decode b_M_up 51 = .ok (.iload_n 0, 1) := by decide +kernel
theorem d_M_up_52 : decode b_M_up 52 = .ok (.bipush 22, 2) := by decide +kernel
theorem d_M_up_54 : decode b_M_up 54 = .ok (.if_icmp .ne 8, 3) := by decide +kernel
theorem d_M_up_57 : decode b_M_up 57 = .ok (.bipush 21, 2) := by decide +kernel
theorem d_M_up_59 : decode b_M_up 59 = .ok (.goto 16, 3) := by decide +kernel
theorem d_M_up_62 : decode b_M_up 62 = .ok (.iload_n 0, 1) := by decide +kernel
theorem d_M_up_63 : decode b_M_up 63 = .ok (.bipush 23, 2) := by decide +kernel
theorem d_M_up_65 : decode b_M_up 65 = .ok (.if_icmp .ne 8, 3) := by decide +kernel
theorem d_M_up_68 : decode b_M_up 68 = .ok (.bipush 22, 2) := by decide +kernel
theorem d_M_up_70 : decode b_M_up 70 = .ok (.goto 5, 3) := by decide +kernel
theorem d_M_up_73 : decode b_M_up 73 = .ok (.bipush 9, 2) := by decide +kernel
theorem d_M_up_75 : decode b_M_up 75 = .ok (.ireturn, 1) := by decide +kernel
theorem d_M_standsIn_0 : decode b_M_standsIn 0 = .ok (.iload_n 0, 1) := by decide +kernel
theorem d_M_standsIn_1 : decode b_M_standsIn 1 = .ok (.bipush 12, 2) := by decide +kernel
theorem d_M_standsIn_3 : decode b_M_standsIn 3 = .ok (.bipush 24, 2) := by decide +kernel
theorem d_M_standsIn_5 : decode b_M_standsIn 5 = .ok (.invokestatic 26, 3) := by decide +kernel
theorem d_M_standsIn_8 : decode b_M_standsIn 8 = .ok (.ifCond .ne 6, 3) := by decide +kernel
theorem d_M_standsIn_11 : decode b_M_standsIn 11 = .ok (.bipush (-2), 2) := by decide +kernel
theorem d_M_standsIn_13 : decode b_M_standsIn 13 = .ok (.ireturn, 1) := by decide +kernel
theorem d_M_standsIn_14 : decode b_M_standsIn 14 = .ok (.iload_n 0, 1) := by decide +kernel
theorem d_M_standsIn_15 : decode b_M_standsIn 15 = .ok (.bipush 17, 2) := by decide +kernel
theorem d_M_standsIn_17 : decode b_M_standsIn 17 = .ok (.if_icmp .ne 8, 3) := by decide +kernel
theorem d_M_standsIn_20 : decode b_M_standsIn 20 = .ok (.bipush 16, 2) := by decide +kernel
theorem d_M_standsIn_22 : decode b_M_standsIn 22 = .ok (.goto 16, 3) := by decide +kernel
theorem d_M_standsIn_25 : decode b_M_standsIn 25 = .ok (.iload_n 0, 1) := by decide +kernel
theorem d_M_standsIn_26 : decode b_M_standsIn 26 = .ok (.bipush 19, 2) := by decide +kernel
theorem d_M_standsIn_28 : decode b_M_standsIn 28 = .ok (.if_icmp .ne 8, 3) := by decide +kernel
theorem d_M_standsIn_31 : decode b_M_standsIn 31 = .ok (.bipush 18, 2) := by decide +kernel
theorem d_M_standsIn_33 : decode b_M_standsIn 33 = .ok (.goto 5, 3) := by decide +kernel
theorem d_M_standsIn_36 : decode b_M_standsIn 36 = .ok (.bipush 11, 2) := by decide +kernel
theorem d_M_standsIn_38 : decode b_M_standsIn 38 = .ok (.ireturn, 1) := by decide +kernel
theorem d_M_interfaceOf_0 : decode b_M_interfaceOf 0 = .ok (.iload_n 1, 1) := by decide +kernel
theorem d_M_interfaceOf_1 : decode b_M_interfaceOf 1 = .ok (.invokestatic 167, 3) := by decide +kernel
theorem d_M_interfaceOf_4 : decode b_M_interfaceOf 4 = .ok (.ifCond .ne 5, 3) := by decide +kernel
theorem d_M_interfaceOf_7 : decode b_M_interfaceOf 7 = .ok (.iconst (-1), 1) := by decide +kernel
theorem d_M_interfaceOf_8 : decode b_M_interfaceOf 8 = .ok (.ireturn, 1) := by decide +kernel
theorem d_M_interfaceOf_9 : decode b_M_interfaceOf 9 = .ok (.iload_n 1, 1) := by decide +kernel
theorem d_M_interfaceOf_10 : decode b_M_interfaceOf 10 = .ok (.bipush 40, 2) := by decide +kernel
theorem d_M_interfaceOf_12 : decode b_M_interfaceOf 12 = .ok (.if_icmp .lt 20, 3) := by decide +kernel
theorem d_M_interfaceOf_15 : decode b_M_interfaceOf 15 = .ok (.iload_n 2, 1) := by decide +kernel
theorem d_M_interfaceOf_16 : decode b_M_interfaceOf 16 = .ok (.iconst 0, 1) := by decide +kernel
theorem d_M_interfaceOf_17 : decode b_M_interfaceOf 17 = .ok (.iconst 1, 1) := by decide +kernel
theorem d_M_interfaceOf_18 : decode b_M_interfaceOf 18 = .ok (.invokestatic 26, 3) := by decide +kernel
theorem d_M_interfaceOf_21 : decode b_M_interfaceOf 21 = .ok (.ifCond .eq 8, 3) := by decide +kernel
theorem d_M_interfaceOf_24 : decode b_M_interfaceOf 24 = .ok (.bipush (-3), 2) := by decide +kernel
theorem d_M_interfaceOf_26 : decode b_M_interfaceOf 26 = .ok (.goto 5, 3) := by decide +kernel
theorem d_M_interfaceOf_29 : decode b_M_interfaceOf 29 = .ok (.bipush (-2), 2) := by decide +kernel
theorem d_M_interfaceOf_31 : decode b_M_interfaceOf 31 = .ok (.ireturn, 1) := by decide +kernel
theorem d_M_interfaceOf_32 : decode b_M_interfaceOf 32 = .ok (.iload_n 1, 1) := by decide +kernel
theorem d_M_interfaceOf_33 : decode b_M_interfaceOf 33 = .ok (.bipush 15, 2) := by decide +kernel
theorem d_M_interfaceOf_35 : decode b_M_interfaceOf 35 = .ok (.if_icmp .ne 11, 3) := by decide +kernel
theorem d_M_interfaceOf_38 : decode b_M_interfaceOf 38 = .ok (.iload_n 2, 1) := by decide +kernel
theorem d_M_interfaceOf_39 : decode b_M_interfaceOf 39 = .ok (.iconst 1, 1) := by decide +kernel
theorem d_M_interfaceOf_40 : decode b_M_interfaceOf 40 = .ok (.if_icmp .ne 6, 3) := by decide +kernel
theorem d_M_interfaceOf_43 : decode b_M_interfaceOf 43 = .ok (.bipush 12, 2) := by decide +kernel
theorem d_M_interfaceOf_45 : decode b_M_interfaceOf 45 = .ok (.ireturn, 1) := by decide +kernel
theorem d_M_interfaceOf_46 : decode b_M_interfaceOf 46 = .ok (.iload_n 2, 1) := by decide +kernel
theorem d_M_interfaceOf_47 : decode b_M_interfaceOf 47 = .ok (.ifCond .eq 6, 3) := by decide +kernel
theorem d_M_interfaceOf_50 : decode b_M_interfaceOf 50 = .ok (.bipush (-2), 2) := by decide +kernel
theorem d_M_interfaceOf_52 : decode b_M_interfaceOf 52 = .ok (.ireturn, 1) := by decide +kernel
theorem d_M_interfaceOf_53 : decode b_M_interfaceOf 53 = .ok (.iload_n 1, 1) := by decide +kernel
theorem d_M_interfaceOf_54 : decode b_M_interfaceOf 54 = .ok (.bipush 14, 2) := by decide +kernel
theorem d_M_interfaceOf_56 : decode b_M_interfaceOf 56 = .ok (.if_icmp .eq 9, 3) := by decide +kernel
theorem d_M_interfaceOf_59 : decode b_M_interfaceOf 59 = .ok (.iload_n 1, 1) := by decide +kernel
theorem d_M_interfaceOf_60 : decode b_M_interfaceOf 60 = .ok (.bipush 15, 2) := by decide +kernel
theorem d_M_interfaceOf_62 : decode b_M_interfaceOf 62 = .ok (.if_icmp .ne 6, 3) := by decide +kernel
theorem d_M_interfaceOf_65 : decode b_M_interfaceOf 65 = .ok (.bipush 13, 2) := by decide +kernel
theorem d_M_interfaceOf_67 : decode b_M_interfaceOf 67 = .ok (.ireturn, 1) := by decide +kernel
theorem d_M_interfaceOf_68 : decode b_M_interfaceOf 68 = .ok (.iload_n 1, 1) := by decide +kernel
theorem d_M_interfaceOf_69 : decode b_M_interfaceOf 69 = .ok (.bipush 20, 2) := by decide +kernel
theorem d_M_interfaceOf_71 : decode b_M_interfaceOf 71 = .ok (.if_icmp .eq 9, 3) := by decide +kernel
theorem d_M_interfaceOf_74 : decode b_M_interfaceOf 74 = .ok (.iload_n 1, 1) := by decide +kernel
theorem d_M_interfaceOf_75 : decode b_M_interfaceOf 75 = .ok (.bipush 21, 2) := by decide +kernel
theorem d_M_interfaceOf_77 : decode b_M_interfaceOf 77 = .ok (.if_icmp .ne 6, 3) := by decide +kernel
theorem d_M_interfaceOf_80 : decode b_M_interfaceOf 80 = .ok (.bipush (-3), 2) := by decide +kernel
theorem d_M_interfaceOf_82 : decode b_M_interfaceOf 82 = .ok (.ireturn, 1) := by decide +kernel
theorem d_M_interfaceOf_83 : decode b_M_interfaceOf 83 = .ok (.iload_n 1, 1) := by decide +kernel
theorem d_M_interfaceOf_84 : decode b_M_interfaceOf 84 = .ok (.bipush 23, 2) := by decide +kernel
theorem d_M_interfaceOf_86 : decode b_M_interfaceOf 86 = .ok (.if_icmp .ne 8, 3) := by decide +kernel
theorem d_M_interfaceOf_89 : decode b_M_interfaceOf 89 = .ok (.bipush 12, 2) := by decide +kernel
theorem d_M_interfaceOf_91 : decode b_M_interfaceOf 91 = .ok (.goto 16, 3) := by decide +kernel
theorem d_M_interfaceOf_94 : decode b_M_interfaceOf 94 = .ok (.iload_n 1, 1) := by decide +kernel
theorem d_M_interfaceOf_95 : decode b_M_interfaceOf 95 = .ok (.bipush 24, 2) := by decide +kernel
theorem d_M_interfaceOf_97 : decode b_M_interfaceOf 97 = .ok (.if_icmp .ne 8, 3) := by decide +kernel
theorem d_M_interfaceOf_100 : decode b_M_interfaceOf 100 = .ok (.bipush 10, 2) := by decide +kernel
theorem d_M_interfaceOf_102 : decode b_M_interfaceOf 102 = .ok (.goto 5, 3) := by decide +kernel
theorem d_M_interfaceOf_105 : decode b_M_interfaceOf 105 = .ok (.bipush (-2), 2) := by decide +kernel
theorem d_M_interfaceOf_107 : decode b_M_interfaceOf 107 = .ok (.ireturn, 1) := by decide +kernel
theorem d_M_goesInto_0 : decode b_M_goesInto 0 = .ok (.iload_n 1, 1) := by decide +kernel
theorem d_M_goesInto_1 : decode b_M_goesInto 1 = .ok (.invokestatic 167, 3) := by decide +kernel
theorem d_M_goesInto_4 : decode b_M_goesInto 4 = .ok (.ifCond .eq 22, 3) := by decide +kernel
theorem d_M_goesInto_7 : decode b_M_goesInto 7 = .ok (.iload_n 2, 1) := by decide +kernel
theorem d_M_goesInto_8 : decode b_M_goesInto 8 = .ok (.invokestatic 167, 3) := by decide +kernel
theorem d_M_goesInto_11 : decode b_M_goesInto 11 = .ok (.ifCond .eq 15, 3) := by decide +kernel
theorem d_M_goesInto_14 : decode b_M_goesInto 14 = .ok (.iload_n 1, 1) := by decide +kernel
theorem d_M_goesInto_15 : decode b_M_goesInto 15 = .ok (.iload_n 2, 1) := by decide +kernel
theorem d_M_goesInto_16 : decode b_M_goesInto 16 = .ok (.invokestatic 186, 3) := by decide +kernel
theorem d_M_goesInto_19 : decode b_M_goesInto 19 = .ok (.ifCond .eq 7, 3) := by decide +kernel
theorem d_M_goesInto_22 : decode b_M_goesInto 22 = .ok (.iconst 1, 1) := by decide +kernel
theorem d_M_goesInto_23 : decode b_M_goesInto 23 = .ok (.goto 4, 3) := by decide +kernel
theorem d_M_goesInto_26 : decode b_M_goesInto 26 = .ok (.iconst 0, 1) := by decide +kernel
theorem d_M_goesInto_27 : decode b_M_goesInto 27 = .ok (.ireturn, 1) := by decide +kernel
theorem d_M_into_0 : decode b_M_into 0 = .ok (.iload_n 0, 1) := by decide +kernel
theorem d_M_into_1 : decode b_M_into 1 = .ok (.istore_n 2, 1) := by decide +kernel
theorem d_M_into_2 : decode b_M_into 2 = .ok (.iload_n 1, 1) := by decide +kernel
theorem d_M_into_3 : decode b_M_into 3 = .ok (.istore_n 3, 1) := by decide +kernel
theorem d_M_into_4 : decode b_M_into 4 = .ok (.iload_n 2, 1) := by decide +kernel
theorem d_M_into_5 : decode b_M_into 5 = .ok (.bipush 40, 2) := by decide +kernel
theorem d_M_into_7 : decode b_M_into 7 = .ok (.if_icmp .lt 29, 3) := by decide +kernel
theorem d_M_into_10 : decode b_M_into 10 = .ok (.iload_n 3, 1) := by decide +kernel
theorem d_M_into_11 : decode b_M_into 11 = .ok (.bipush 40, 2) := by decide +kernel
theorem d_M_into_13 : decode b_M_into 13 = .ok (.if_icmp .lt 23, 3) := by decide +kernel
theorem d_M_into_16 : decode b_M_into 16 = .ok (.iload_n 2, 1) := by decide +kernel
theorem d_M_into_17 : decode b_M_into 17 = .ok (.iload_n 3, 1) := by decide +kernel
theorem d_M_into_18 : decode b_M_into 18 = .ok (.if_icmp .eq 18, 3) := by decide +kernel
theorem d_M_into_21 : decode b_M_into 21 = .ok (.iinc 2 (-40), 3) := by decide +kernel
theorem d_M_into_24 : decode b_M_into 24 = .ok (.iinc 3 (-40), 3) := by decide +kernel
theorem d_M_into_27 : decode b_M_into 27 = .ok (.iload_n 2, 1) := by decide +kernel
theorem d_M_into_28 : decode b_M_into 28 = .ok (.invokestatic 102, 3) := by decide +kernel
theorem d_M_into_31 : decode b_M_into 31 = .ok (.ifCond .eq (-27), 3) := by decide +kernel
theorem d_M_into_34 : decode b_M_into 34 = .ok (.iconst 0, 1) := by decide +kernel
theorem d_M_into_35 : decode b_M_into 35 = .ok (.ireturn, 1) := by decide +kernel
theorem d_M_into_36 : decode b_M_into 36 = .ok (.iload_n 2, 1) := by decide +kernel
theorem d_M_into_37 : decode b_M_into 37 = .ok (.iload_n 3, 1) := by decide +kernel
theorem d_M_into_38 : decode b_M_into 38 = .ok (.if_icmp .ne 5, 3) := by decide +kernel
theorem d_M_into_41 : decode b_M_into 41 = .ok (.iconst 1, 1) := by decide +kernel
theorem d_M_into_42 : decode b_M_into 42 = .ok (.ireturn, 1) := by decide +kernel
theorem d_M_into_43 : decode b_M_into 43 = .ok (.iload_n 3, 1) := by decide +kernel
theorem d_M_into_44 : decode b_M_into 44 = .ok (.bipush 9, 2) := by decide +kernel
theorem d_M_into_46 : decode b_M_into 46 = .ok (.if_icmp .ne 16, 3) := by decide +kernel
theorem d_M_into_49 : decode b_M_into 49 = .ok (.iload_n 2, 1) := by decide +kernel
theorem d_M_into_50 : decode b_M_into 50 = .ok (.invokestatic 102, 3) := by decide +kernel
theorem d_M_into_53 : decode b_M_into 53 = .ok (.ifCond .ne 7, 3) := by decide +kernel
theorem d_M_into_56 : decode b_M_into 56 = .ok (.iconst 1, 1) := by decide +kernel
theorem d_M_into_57 : decode b_M_into 57 = .ok (.goto 4, 3) := by decide +kernel
theorem d_M_into_60 : decode b_M_into 60 = .ok (.iconst 0, 1) := by decide +kernel
theorem d_M_into_61 : decode b_M_into 61 = .ok (.ireturn, 1) := by decide +kernel
theorem d_M_into_62 : decode b_M_into 62 = .ok (.iload_n 3, 1) := by decide +kernel
theorem d_M_into_63 : decode b_M_into 63 = .ok (.bipush 10, 2) := by decide +kernel
theorem d_M_into_65 : decode b_M_into 65 = .ok (.if_icmp .ne 15, 3) := by decide +kernel
theorem d_M_into_68 : decode b_M_into 68 = .ok (.iload_n 2, 1) := by decide +kernel
theorem d_M_into_69 : decode b_M_into 69 = .ok (.bipush 24, 2) := by decide +kernel
theorem d_M_into_71 : decode b_M_into 71 = .ok (.if_icmp .ne 7, 3) := by decide +kernel
theorem d_M_into_74 : decode b_M_into 74 = .ok (.iconst 1, 1) := by decide +kernel
theorem d_M_into_75 : decode b_M_into 75 = .ok (.goto 4, 3) := by decide +kernel
theorem d_M_into_78 : decode b_M_into 78 = .ok (.iconst 0, 1) := by decide +kernel
theorem d_M_into_79 : decode b_M_into 79 = .ok (.ireturn, 1) := by decide +kernel
theorem d_M_into_80 : decode b_M_into 80 = .ok (.iload_n 3, 1) := by decide +kernel
theorem d_M_into_81 : decode b_M_into 81 = .ok (.bipush 12, 2) := by decide +kernel
theorem d_M_into_83 : decode b_M_into 83 = .ok (.if_icmp .ne 21, 3) := by decide +kernel
theorem d_M_into_86 : decode b_M_into 86 = .ok (.iload_n 2, 1) := by decide +kernel
theorem d_M_into_87 : decode b_M_into 87 = .ok (.bipush 15, 2) := by decide +kernel
theorem d_M_into_89 : decode b_M_into 89 = .ok (.if_icmp .eq 9, 3) := by decide +kernel
theorem d_M_into_92 : decode b_M_into 92 = .ok (.iload_n 2, 1) := by decide +kernel
theorem d_M_into_93 : decode b_M_into 93 = .ok (.bipush 23, 2) := by decide +kernel
theorem d_M_into_95 : decode b_M_into 95 = .ok (.if_icmp .ne 7, 3) := by decide +kernel
theorem d_M_into_98 : decode b_M_into 98 = .ok (.iconst 1, 1) := by decide +kernel
theorem d_M_into_99 : decode b_M_into 99 = .ok (.goto 4, 3) := by decide +kernel
theorem d_M_into_102 : decode b_M_into 102 = .ok (.iconst 0, 1) := by decide +kernel
theorem d_M_into_103 : decode b_M_into 103 = .ok (.ireturn, 1) := by decide +kernel
theorem d_M_into_104 : decode b_M_into 104 = .ok (.iload_n 3, 1) := by decide +kernel
theorem d_M_into_105 : decode b_M_into 105 = .ok (.bipush 13, 2) := by decide +kernel
theorem d_M_into_107 : decode b_M_into 107 = .ok (.if_icmp .ne 21, 3) := by decide +kernel
theorem d_M_into_110 : decode b_M_into 110 = .ok (.iload_n 2, 1) := by decide +kernel
theorem d_M_into_111 : decode b_M_into 111 = .ok (.bipush 14, 2) := by decide +kernel
theorem d_M_into_113 : decode b_M_into 113 = .ok (.if_icmp .eq 9, 3) := by decide +kernel
theorem d_M_into_116 : decode b_M_into 116 = .ok (.iload_n 2, 1) := by decide +kernel
theorem d_M_into_117 : decode b_M_into 117 = .ok (.bipush 15, 2) := by decide +kernel
theorem d_M_into_119 : decode b_M_into 119 = .ok (.if_icmp .ne 7, 3) := by decide +kernel
theorem d_M_into_122 : decode b_M_into 122 = .ok (.iconst 1, 1) := by decide +kernel
theorem d_M_into_123 : decode b_M_into 123 = .ok (.goto 4, 3) := by decide +kernel
theorem d_M_into_126 : decode b_M_into 126 = .ok (.iconst 0, 1) := by decide +kernel
theorem d_M_into_127 : decode b_M_into 127 = .ok (.ireturn, 1) := by decide +kernel
theorem d_M_into_128 : decode b_M_into 128 = .ok (.iload_n 3, 1) := by decide +kernel
theorem d_M_into_129 : decode b_M_into 129 = .ok (.bipush 16, 2) := by decide +kernel
theorem d_M_into_131 : decode b_M_into 131 = .ok (.if_icmp .ne 15, 3) := by decide +kernel
theorem d_M_into_134 : decode b_M_into 134 = .ok (.iload_n 2, 1) := by decide +kernel
theorem d_M_into_135 : decode b_M_into 135 = .ok (.bipush 17, 2) := by decide +kernel
theorem d_M_into_137 : decode b_M_into 137 = .ok (.if_icmp .ne 7, 3) := by decide +kernel
theorem d_M_into_140 : decode b_M_into 140 = .ok (.iconst 1, 1) := by decide +kernel
theorem d_M_into_141 : decode b_M_into 141 = .ok (.goto 4, 3) := by decide +kernel
theorem d_M_into_144 : decode b_M_into 144 = .ok (.iconst 0, 1) := by decide +kernel
theorem d_M_into_145 : decode b_M_into 145 = .ok (.ireturn, 1) := by decide +kernel
theorem d_M_into_146 : decode b_M_into 146 = .ok (.iload_n 3, 1) := by decide +kernel
theorem d_M_into_147 : decode b_M_into 147 = .ok (.bipush 21, 2) := by decide +kernel
theorem d_M_into_149 : decode b_M_into 149 = .ok (.if_icmp .ne 15, 3) := by decide +kernel
theorem d_M_into_152 : decode b_M_into 152 = .ok (.iload_n 2, 1) := by decide +kernel
theorem d_M_into_153 : decode b_M_into 153 = .ok (.bipush 22, 2) := by decide +kernel
theorem d_M_into_155 : decode b_M_into 155 = .ok (.if_icmp .eq 21, 3) := by decide +kernel
theorem d_M_into_158 : decode b_M_into 158 = .ok (.iload_n 2, 1) := by decide +kernel
theorem d_M_into_159 : decode b_M_into 159 = .ok (.bipush 23, 2) := by decide +kernel
theorem d_M_into_161 : decode b_M_into 161 = .ok (.if_icmp .eq 15, 3) := by decide +kernel
theorem d_M_into_164 : decode b_M_into 164 = .ok (.iload_n 3, 1) := by decide +kernel
theorem d_M_into_165 : decode b_M_into 165 = .ok (.bipush 22, 2) := by decide +kernel
theorem d_M_into_167 : decode b_M_into 167 = .ok (.if_icmp .ne 13, 3) := by decide +kernel
theorem d_M_into_170 : decode b_M_into 170 = .ok (.iload_n 2, 1) := by decide +kernel
theorem d_M_into_171 : decode b_M_into 171 = .ok (.bipush 23, 2) := by decide +kernel
theorem d_M_into_173 : decode b_M_into 173 = .ok (.if_icmp .ne 7, 3) := by decide +kernel
theorem d_M_into_176 : decode b_M_into 176 = .ok (.iconst 1, 1) := by decide +kernel
theorem d_M_into_177 : decode b_M_into 177 = .ok (.goto 4, 3) := by decide +kernel
theorem d_M_into_180 : decode b_M_into 180 = .ok (.iconst 0, 1) := by decide +kernel
theorem d_M_into_181 : decode b_M_into 181 = .ok (.ireturn, 1) := by decide +kernel
theorem d_M_asSubclass_0 : decode b_M_asSubclass 0 = .ok (.iload_n 1, 1) := by decide +kernel
theorem d_M_asSubclass_1 : decode b_M_asSubclass 1 = .ok (.invokestatic 167, 3) := by decide +kernel
theorem d_M_asSubclass_4 : decode b_M_asSubclass 4 = .ok (.ifCond .eq 10, 3) := by decide +kernel
theorem d_M_asSubclass_7 : decode b_M_asSubclass 7 = .ok (.iload_n 2, 1) := by decide +kernel
theorem d_M_asSubclass_8 : decode b_M_asSubclass 8 = .ok (.invokestatic 167, 3) := by decide +kernel
theorem d_M_asSubclass_11 : decode b_M_asSubclass 11 = .ok (.ifCond .ne 5, 3) := by decide +kernel
theorem d_M_asSubclass_14 : decode b_M_asSubclass 14 = .ok (.iconst (-1), 1) := by decide +kernel
theorem d_M_asSubclass_15 : decode b_M_asSubclass 15 = .ok (.ireturn, 1) := by decide +kernel
theorem d_M_asSubclass_16 : decode b_M_asSubclass 16 = .ok (.iload_n 1, 1) := by decide +kernel
theorem d_M_asSubclass_17 : decode b_M_asSubclass 17 = .ok (.iload_n 2, 1) := by decide +kernel
theorem d_M_asSubclass_18 : decode b_M_asSubclass 18 = .ok (.invokestatic 186, 3) := by decide +kernel
theorem d_M_asSubclass_21 : decode b_M_asSubclass 21 = .ok (.ifCond .eq 7, 3) := by decide +kernel
theorem d_M_asSubclass_24 : decode b_M_asSubclass 24 = .ok (.iload_n 1, 1) := by decide +kernel
theorem d_M_asSubclass_25 : decode b_M_asSubclass 25 = .ok (.goto 5, 3) := by decide +kernel
theorem d_M_asSubclass_28 : decode b_M_asSubclass 28 = .ok (.bipush (-5), 2) := by decide +kernel
theorem d_M_asSubclass_30 : decode b_M_asSubclass 30 = .ok (.ireturn, 1) := by decide +kernel
theorem d_M_nestmates_0 : decode b_M_nestmates 0 = .ok (.iload_n 1, 1) := by decide +kernel
theorem d_M_nestmates_1 : decode b_M_nestmates 1 = .ok (.invokestatic 167, 3) := by decide +kernel
theorem d_M_nestmates_4 : decode b_M_nestmates 4 = .ok (.ifCond .eq 41, 3) := by decide +kernel
theorem d_M_nestmates_7 : decode b_M_nestmates 7 = .ok (.iload_n 2, 1) := by decide +kernel
theorem d_M_nestmates_8 : decode b_M_nestmates 8 = .ok (.invokestatic 167, 3) := by decide +kernel
theorem d_M_nestmates_11 : decode b_M_nestmates 11 = .ok (.ifCond .eq 34, 3) := by decide +kernel
theorem d_M_nestmates_14 : decode b_M_nestmates 14 = .ok (.iload_n 1, 1) := by decide +kernel
theorem d_M_nestmates_15 : decode b_M_nestmates 15 = .ok (.iload_n 2, 1) := by decide +kernel
theorem d_M_nestmates_16 : decode b_M_nestmates 16 = .ok (.if_icmp .eq 25, 3) := by decide +kernel
theorem d_M_nestmates_19 : decode b_M_nestmates 19 = .ok (.iload_n 1, 1) := by decide +kernel
theorem d_M_nestmates_20 : decode b_M_nestmates 20 = .ok (.bipush 11, 2) := by decide +kernel
theorem d_M_nestmates_22 : decode b_M_nestmates 22 = .ok (.bipush 24, 2) := by decide +kernel
theorem d_M_nestmates_24 : decode b_M_nestmates 24 = .ok (.invokestatic 26, 3) := by decide +kernel
theorem d_M_nestmates_27 : decode b_M_nestmates 27 = .ok (.ifCond .eq 18, 3) := by decide +kernel
theorem d_M_nestmates_30 : decode b_M_nestmates 30 = .ok (.iload_n 2, 1) := by decide +kernel
theorem d_M_nestmates_31 : decode b_M_nestmates 31 = .ok (.bipush 11, 2) := by decide +kernel
theorem d_M_nestmates_33 : decode b_M_nestmates 33 = .ok (.bipush 24, 2) := by decide +kernel
theorem d_M_nestmates_35 : decode b_M_nestmates 35 = .ok (.invokestatic 26, 3) := by decide +kernel
theorem d_M_nestmates_38 : decode b_M_nestmates 38 = .ok (.ifCond .eq 7, 3) := by decide +kernel
theorem d_M_nestmates_41 : decode b_M_nestmates 41 = .ok (.iconst 1, 1) := by decide +kernel
theorem d_M_nestmates_42 : decode b_M_nestmates 42 = .ok (.goto 4, 3) := by decide +kernel
theorem d_M_nestmates_45 : decode b_M_nestmates 45 = .ok (.iconst 0, 1) := by decide +kernel
theorem d_M_nestmates_46 : decode b_M_nestmates 46 = .ok (.ireturn, 1) := by decide +kernel
theorem d_M_type_0 : decode b_M_type 0 = .ok (.iload_n 1, 1) := by decide +kernel
theorem d_M_type_1 : decode b_M_type 1 = .ok (.bipush 33, 2) := by decide +kernel
theorem d_M_type_3 : decode b_M_type 3 = .ok (.if_icmp .lt 9, 3) := by decide +kernel
theorem d_M_type_6 : decode b_M_type 6 = .ok (.iload_n 1, 1) := by decide +kernel
theorem d_M_type_7 : decode b_M_type 7 = .ok (.bipush 126, 2) := by decide +kernel
theorem d_M_type_9 : decode b_M_type 9 = .ok (.if_icmp .le 5, 3) := by decide +kernel
theorem d_M_type_12 : decode b_M_type 12 = .ok (.iconst (-1), 1) := by decide +kernel
theorem d_M_type_13 : decode b_M_type 13 = .ok (.ireturn, 1) := by decide +kernel
theorem d_M_type_14 : decode b_M_type 14 = .ok (.aload_n 0, 1) := by decide +kernel
theorem d_M_type_15 : decode b_M_type 15 = .ok (.getfield 189, 3) := by decide +kernel
theorem d_M_type_18 : decode b_M_type 18 = .ok (.bipush 40, 2) := by decide +kernel
theorem d_M_type_20 : decode b_M_type 20 = .ok (.if_icmp .ne 6, 3) := by decide +kernel
theorem d_M_type_23 : decode b_M_type 23 = .ok (.bipush (-6), 2) := by decide +kernel
theorem d_M_type_25 : decode b_M_type 25 = .ok (.ireturn, 1) := by decide +kernel
theorem d_M_type_26 : decode b_M_type 26 = .ok (.aload_n 0, 1) := by decide +kernel
theorem d_M_type_27 : decode b_M_type 27 = .ok (.getfield 13, 3) := by decide +kernel
theorem d_M_type_30 : decode b_M_type 30 = .ok (.aload_n 0, 1) := by decide +kernel
theorem d_M_type_31 : decode b_M_type 31 = .ok (.getfield 189, 3) := by decide +kernel
theorem d_M_type_34 : decode b_M_type 34 = .ok (.iload_n 1, 1) := by decide +kernel
theorem d_M_type_35 : decode b_M_type 35 = .ok (.iastore, 1) := by decide +kernel
theorem d_M_type_36 : decode b_M_type 36 = .ok (.aload_n 0, 1) := by decide +kernel
theorem d_M_type_37 : decode b_M_type 37 = .ok (.dup, 1) := by decide +kernel
theorem d_M_type_38 : decode b_M_type 38 = .ok (.getfield 189, 3) := by decide +kernel
theorem d_M_type_41 : decode b_M_type 41 = .ok (.iconst 1, 1) := by decide +kernel
theorem d_M_type_42 : decode b_M_type 42 = .ok (.iadd, 1) := by decide +kernel
theorem d_M_type_43 : decode b_M_type 43 = .ok (.putfield 189, 3) := by decide +kernel
theorem d_M_type_46 : decode b_M_type 46 = .ok (.aload_n 0, 1) := by decide +kernel
theorem d_M_type_47 : decode b_M_type 47 = .ok (.getfield 189, 3) := by decide +kernel
theorem d_M_type_50 : decode b_M_type 50 = .ok (.ireturn, 1) := by decide +kernel
theorem d_M_types_0 : decode b_M_types 0 = .ok (.bipush 56, 2) := by decide +kernel
theorem d_M_types_2 : decode b_M_types 2 = .ok (.istore_n 3, 1) := by decide +kernel
theorem d_M_types_3 : decode b_M_types 3 = .ok (.iload_n 3, 1) := by decide +kernel
theorem d_M_types_4 : decode b_M_types 4 = .ok (.ifCond .lt 43, 3) := by decide +kernel
theorem d_M_types_7 : decode b_M_types 7 = .ok (.lload_n 1, 1) := by decide +kernel
theorem d_M_types_8 : decode b_M_types 8 = .ok (.iload_n 3, 1) := by decide +kernel
theorem d_M_types_9 : decode b_M_types 9 = .ok (.lushr, 1) := by decide +kernel
theorem d_M_types_10 : decode b_M_types 10 = .ok (.l2i, 1) := by decide +kernel
theorem d_M_types_11 : decode b_M_types 11 = .ok (.sipush 255, 3) := by decide +kernel
theorem d_M_types_14 : decode b_M_types 14 = .ok (.iand, 1) := by decide +kernel
theorem d_M_types_15 : decode b_M_types 15 = .ok (.istore 4, 2) := by decide +kernel
theorem d_M_types_17 : decode b_M_types 17 = .ok (.iload 4, 2) := by decide +kernel
theorem d_M_types_19 : decode b_M_types 19 = .ok (.ifCond .ne 6, 3) := by decide +kernel
theorem d_M_types_22 : decode b_M_types 22 = .ok (.goto 19, 3) := by decide +kernel
theorem d_M_types_25 : decode b_M_types 25 = .ok (.aload_n 0, 1) := by decide +kernel
theorem d_M_types_26 : decode b_M_types 26 = .ok (.iload 4, 2) := by decide +kernel
theorem d_M_types_28 : decode b_M_types 28 = .ok (.invokevirtual 192, 3) := by decide +kernel
theorem d_M_types_31 : decode b_M_types 31 = .ok (.istore 5, 2) := by decide +kernel
theorem d_M_types_33 : decode b_M_types 33 = .ok (.iload 5, 2) := by decide +kernel
theorem d_M_types_35 : decode b_M_types 35 = .ok (.ifCond .ge 6, 3) := by decide +kernel
theorem d_M_types_38 : decode b_M_types 38 = .ok (.iload 5, 2) := by decide +kernel
theorem d_M_types_40 : decode b_M_types 40 = .ok (.ireturn, 1) := by decide +kernel
theorem d_M_types_41 : decode b_M_types 41 = .ok (.iinc 3 (-8), 3) := by decide +kernel
theorem d_M_types_44 : decode b_M_types 44 = .ok (.goto (-41), 3) := by decide +kernel
theorem d_M_types_47 : decode b_M_types 47 = .ok (.aload_n 0, 1) := by decide +kernel
theorem d_M_types_48 : decode b_M_types 48 = .ok (.getfield 189, 3) := by decide +kernel
theorem d_M_types_51 : decode b_M_types 51 = .ok (.ireturn, 1) := by decide +kernel
theorem d_M_find_0 : decode b_M_find 0 = .ok (.aload_n 0, 1) := by decide +kernel
theorem d_M_find_1 : decode b_M_find 1 = .ok (.getfield 189, 3) := by decide +kernel
theorem d_M_find_4 : decode b_M_find 4 = .ok (.istore_n 1, 1) := by decide +kernel
theorem d_M_find_5 : decode b_M_find 5 = .ok (.iconst 0, 1) := by decide +kernel
theorem d_M_find_6 : decode b_M_find 6 = .ok (.istore_n 2, 1) := by decide +kernel
theorem d_M_find_7 : decode b_M_find 7 = .ok (.aload_n 0, 1) := by decide +kernel
theorem d_M_find_8 : decode b_M_find 8 = .ok (.iconst 0, 1) := by decide +kernel
theorem d_M_find_9 : decode b_M_find 9 = .ok (.putfield 189, 3) := by decide +kernel
theorem d_M_find_12 : decode b_M_find 12 = .ok (.iload_n 2, 1) := by decide +kernel
theorem d_M_find_13 : decode b_M_find 13 = .ok (.iload_n 1, 1) := by decide +kernel
theorem d_M_find_14 : decode b_M_find 14 = .ok (.if_icmp .ge 20, 3) := by decide +kernel
theorem d_M_find_17 : decode b_M_find 17 = .ok (.aload_n 0, 1) := by decide +kernel
theorem d_M_find_18 : decode b_M_find 18 = .ok (.getfield 13, 3) := by decide +kernel
theorem d_M_find_21 : decode b_M_find 21 = .ok (.iload_n 2, 1) := by decide +kernel
theorem d_M_find_22 : decode b_M_find 22 = .ok (.iaload, 1) := by decide +kernel
theorem d_M_find_23 : decode b_M_find 23 = .ok (.bipush 91, 2) := by decide +kernel
theorem d_M_find_25 : decode b_M_find 25 = .ok (.if_icmp .ne 9, 3) := by decide +kernel
theorem d_M_find_28 : decode b_M_find 28 = .ok (.iinc 2 1, 3) := by decide +kernel
theorem d_M_find_31 : decode b_M_find 31 = .ok (.goto (-19), 3) := by decide +kernel
theorem d_M_find_34 : decode b_M_find 34 = .ok (.aload_n 0, 1) := by decide +kernel
theorem d_M_find_35 : decode b_M_find 35 = .ok (.iload_n 2, 1) := by decide +kernel
theorem d_M_find_36 : decode b_M_find 36 = .ok (.iload_n 1, 1) := by decide +kernel
theorem d_M_find_37 : decode b_M_find 37 = .ok (.invokevirtual 206, 3) := by decide +kernel
theorem d_M_find_40 : decode b_M_find 40 = .ok (.ireturn, 1) := by decide +kernel
theorem d_M_search_0 : decode b_M_search 0 = .ok (.iconst (-1), 1) := by decide +kernel
theorem d_M_search_1 : decode b_M_search 1 = .ok (.istore_n 3, 1) := by decide +kernel
theorem d_M_search_2 : decode b_M_search 2 = .ok (.iload_n 1, 1) := by decide +kernel
theorem d_M_search_3 : decode b_M_search 3 = .ok (.ifCond .eq 34, 3) := by decide +kernel
theorem d_M_search_6 : decode b_M_search 6 = .ok (.iload_n 2, 1) := by decide +kernel
theorem d_M_search_7 : decode b_M_search 7 = .ok (.iload_n 1, 1) := by decide +kernel
theorem d_M_search_8 : decode b_M_search 8 = .ok (.isub, 1) := by decide +kernel
theorem d_M_search_9 : decode b_M_search 9 = .ok (.iconst 2, 1) := by decide +kernel
theorem d_M_search_10 : decode b_M_search 10 = .ok (.if_icmp .le 31, 3) := by decide +kernel
theorem d_M_search_13 : decode b_M_search 13 = .ok (.aload_n 0, 1) := by decide +kernel
theorem d_M_search_14 : decode b_M_search 14 = .ok (.getfield 13, 3) := by decide +kernel
theorem d_M_search_17 : decode b_M_search 17 = .ok (.iload_n 1, 1) := by decide +kernel
theorem d_M_search_18 : decode b_M_search 18 = .ok (.iaload, 1) := by decide +kernel
theorem d_M_search_19 : decode b_M_search 19 = .ok (.bipush 76, 2) := by decide +kernel
theorem d_M_search_21 : decode b_M_search 21 = .ok (.if_icmp .ne 20, 3) := by decide +kernel
theorem d_M_search_24 : decode b_M_search 24 = .ok (.aload_n 0, 1) := by decide +kernel
theorem d_M_search_25 : decode b_M_search 25 = .ok (.getfield 13, 3) := by decide +kernel
theorem d_M_search_28 : decode b_M_search 28 = .ok (.iload_n 2, 1) := by decide +kernel
theorem d_M_search_29 : decode b_M_search 29 = .ok (.iconst 1, 1) := by decide +kernel
theorem d_M_search_30 : decode b_M_search 30 = .ok (.isub, 1) := by decide +kernel
theorem d_M_search_31 : decode b_M_search 31 = .ok (.iaload, 1) := by decide +kernel
theorem d_M_search_32 : decode b_M_search 32 = .ok (.bipush 59, 2) := by decide +kernel
theorem d_M_search_34 : decode b_M_search 34 = .ok (.if_icmp .ne 7, 3) := by decide +kernel
theorem d_M_search_37 : decode b_M_search 37 = .ok (.iconst 1, 1) := by decide +kernel
theorem d_M_search_38 : decode b_M_search 38 = .ok (.goto 4, 3) := by decide +kernel
theorem d_M_search_41 : decode b_M_search 41 = .ok (.iconst 0, 1) := by decide +kernel
theorem d_M_search_42 : decode b_M_search 42 = .ok (.istore 4, 2) := by decide +kernel
theorem d_M_search_44 : decode b_M_search 44 = .ok (.iload 4, 2) := by decide +kernel
theorem d_M_search_46 : decode b_M_search 46 = .ok (.ifCond .eq 76, 3) := by decide +kernel
theorem d_M_search_49 : decode b_M_search 49 = .ok (.iload_n 1, 1) := by decide +kernel
theorem d_M_search_50 : decode b_M_search 50 = .ok (.ifCond .ne 7, 3) := by decide +kernel
theorem d_M_search_53 : decode b_M_search 53 = .ok (.iconst 0, 1) := by decide +kernel
theorem d_M_search_54 : decode b_M_search 54 = .ok (.goto 6, 3) := by decide +kernel
theorem d_M_search_57 : decode b_M_search 57 = .ok (.iload_n 1, 1) := by decide +kernel
theorem d_M_search_58 : decode b_M_search 58 = .ok (.iconst 1, 1) := by decide +kernel
theorem d_M_search_59 : decode b_M_search 59 = .ok (.iadd, 1) := by decide +kernel
theorem d_M_search_60 : decode b_M_search 60 = .ok (.istore 5, 2) := by decide +kernel
theorem d_M_search_62 : decode b_M_search 62 = .ok (.iload_n 1, 1) := by decide +kernel
theorem d_M_search_63 : decode b_M_search 63 = .ok (.ifCond .ne 7, 3) := by decide +kernel
theorem d_M_search_66 : decode b_M_search 66 = .ok (.iload_n 2, 1) := by decide +kernel
theorem d_M_search_67 : decode b_M_search 67 = .ok (.goto 6, 3) := by decide +kernel
theorem d_M_search_70 : decode b_M_search 70 = .ok (.iload_n 2, 1) := by decide +kernel
theorem d_M_search_71 : decode b_M_search 71 = .ok (.iconst 1, 1) := by decide +kernel
theorem d_M_search_72 : decode b_M_search 72 = .ok (.isub, 1) := by decide +kernel
theorem d_M_search_73 : decode b_M_search 73 = .ok (.istore 6, 2) := by decide +kernel
theorem d_M_search_75 : decode b_M_search 75 = .ok (.aload_n 0, 1) := by decide +kernel
theorem d_M_search_76 : decode b_M_search 76 = .ok (.iload 5, 2) := by decide +kernel
theorem d_M_search_78 : decode b_M_search 78 = .ok (.iload 6, 2) := by decide +kernel
theorem d_M_search_80 : decode b_M_search 80 = .ok (.invokevirtual 199, 3) := by decide +kernel
theorem d_M_search_83 : decode b_M_search 83 = .ok (.istore_n 3, 1) := by decide +kernel
theorem d_M_search_84 : decode b_M_search 84 = .ok (.iload_n 3, 1) := by decide +kernel
theorem d_M_search_85 : decode b_M_search 85 = .ok (.ifCond .lt 9, 3) := by decide +kernel
theorem d_M_search_88 : decode b_M_search 88 = .ok (.iload_n 3, 1) := by decide +kernel
theorem d_M_search_89 : decode b_M_search 89 = .ok (.bipush 11, 2) := by decide +kernel
theorem d_M_search_91 : decode b_M_search 91 = .ok (.if_icmp .le 16, 3) := by decide +kernel
theorem d_M_search_94 : decode b_M_search 94 = .ok (.aload_n 0, 1) := by decide +kernel
theorem d_M_search_95 : decode b_M_search 95 = .ok (.iload 5, 2) := by decide +kernel
theorem d_M_search_97 : decode b_M_search 97 = .ok (.iload 6, 2) := by decide +kernel
theorem d_M_search_99 : decode b_M_search 99 = .ok (.invokevirtual 203, 3) := by decide +kernel
theorem d_M_search_102 : decode b_M_search 102 = .ok (.ifCond .ne 5, 3) := by decide +kernel
theorem d_M_search_105 : decode b_M_search 105 = .ok (.iconst (-1), 1) := by decide +kernel
theorem d_M_search_106 : decode b_M_search 106 = .ok (.ireturn, 1) := by decide +kernel
theorem d_M_search_107 : decode b_M_search 107 = .ok (.iload_n 3, 1) := by decide +kernel
theorem d_M_search_108 : decode b_M_search 108 = .ok (.ifCond .lt 11, 3) := by decide +kernel
theorem d_M_search_111 : decode b_M_search 111 = .ok (.iload_n 3, 1) := by decide +kernel
theorem d_M_search_112 : decode b_M_search 112 = .ok (.bipush 9, 2) := by decide +kernel
theorem d_M_search_114 : decode b_M_search 114 = .ok (.if_icmp .ge 5, 3) := by decide +kernel
theorem d_M_search_117 : decode b_M_search 117 = .ok (.iconst (-1), 1) := by decide +kernel
theorem d_M_search_118 : decode b_M_search 118 = .ok (.istore_n 3, 1) := by decide +kernel
theorem d_M_search_119 : decode b_M_search 119 = .ok (.goto 52, 3) := by decide +kernel
theorem d_M_search_122 : decode b_M_search 122 = .ok (.iload_n 2, 1) := by decide +kernel
theorem d_M_search_123 : decode b_M_search 123 = .ok (.iload_n 1, 1) := by decide +kernel
theorem d_M_search_124 : decode b_M_search 124 = .ok (.isub, 1) := by decide +kernel
theorem d_M_search_125 : decode b_M_search 125 = .ok (.iconst 1, 1) := by decide +kernel
theorem d_M_search_126 : decode b_M_search 126 = .ok (.if_icmp .le 5, 3) := by decide +kernel
theorem d_M_search_129 : decode b_M_search 129 = .ok (.iconst (-1), 1) := by decide +kernel
theorem d_M_search_130 : decode b_M_search 130 = .ok (.ireturn, 1) := by decide +kernel
theorem d_M_search_131 : decode b_M_search 131 = .ok (.iconst 0, 1) := by decide +kernel
theorem d_M_search_132 : decode b_M_search 132 = .ok (.istore 5, 2) := by decide +kernel
theorem d_M_search_134 : decode b_M_search 134 = .ok (.iload 5, 2) := by decide +kernel
theorem d_M_search_136 : decode b_M_search 136 = .ok (.bipush 8, 2) := by decide +kernel
theorem d_M_search_138 : decode b_M_search 138 = .ok (.if_icmp .ge 33, 3) := by decide +kernel
theorem d_M_search_141 : decode b_M_search 141 = .ok (.iload_n 2, 1) := by decide +kernel
theorem d_M_search_142 : decode b_M_search 142 = .ok (.iload_n 1, 1) := by decide +kernel
theorem d_M_search_143 : decode b_M_search 143 = .ok (.isub, 1) := by decide +kernel
theorem d_M_search_144 : decode b_M_search 144 = .ok (.iconst 1, 1) := by decide +kernel
theorem d_M_search_145 : decode b_M_search 145 = .ok (.if_icmp .ne 26, 3) := by decide +kernel
theorem d_M_search_148 : decode b_M_search 148 = .ok (.aload_n 0, 1) := by decide +kernel
theorem d_M_search_149 : decode b_M_search 149 = .ok (.getfield 13, 3) := by decide +kernel
theorem d_M_search_152 : decode b_M_search 152 = .ok (.iload_n 1, 1) := by decide +kernel
theorem d_M_search_153 : decode b_M_search 153 = .ok (.iaload, 1) := by decide +kernel
theorem d_M_search_154 : decode b_M_search 154 = .ok (.iload 5, 2) := by decide +kernel
theorem d_M_search_156 : decode b_M_search 156 = .ok (.invokestatic 106, 3) := by decide +kernel
theorem d_M_search_159 : decode b_M_search 159 = .ok (.if_icmp .ne 6, 3) := by decide +kernel
theorem d_M_search_162 : decode b_M_search 162 = .ok (.iload 5, 2) := by decide +kernel
theorem d_M_search_164 : decode b_M_search 164 = .ok (.istore_n 3, 1) := by decide +kernel
theorem d_M_search_165 : decode b_M_search 165 = .ok (.iinc 5 1, 3) := by decide +kernel
theorem d_M_search_168 : decode b_M_search 168 = .ok (.goto (-34), 3) := by decide +kernel
theorem d_M_search_171 : decode b_M_search 171 = .ok (.iload_n 3, 1) := by decide +kernel
theorem d_M_search_172 : decode b_M_search 172 = .ok (.ifCond .ge 6, 3) := by decide +kernel
theorem d_M_search_175 : decode b_M_search 175 = .ok (.bipush (-4), 2) := by decide +kernel
theorem d_M_search_177 : decode b_M_search 177 = .ok (.ireturn, 1) := by decide +kernel
theorem d_M_search_178 : decode b_M_search 178 = .ok (.iload_n 1, 1) := by decide +kernel
theorem d_M_search_179 : decode b_M_search 179 = .ok (.iconst 2, 1) := by decide +kernel
theorem d_M_search_180 : decode b_M_search 180 = .ok (.if_icmp .le 8, 3) := by decide +kernel
theorem d_M_search_183 : decode b_M_search 183 = .ok (.bipush (-3), 2) := by decide +kernel
theorem d_M_search_185 : decode b_M_search 185 = .ok (.goto 9, 3) := by decide +kernel
theorem d_M_search_188 : decode b_M_search 188 = .ok (.bipush 40, 2) := by decide +kernel
theorem d_M_search_190 : decode b_M_search 190 = .ok (.iload_n 1, 1) := by decide +kernel
theorem d_M_search_191 : decode b_M_search 191 = .ok (.imul, 1) := by decide +kernel
theorem d_M_search_192 : decode b_M_search 192 = .ok (.iload_n 3, 1) := by decide +kernel
theorem d_M_search_193 : decode b_M_search 193 = .ok (.iadd, 1) := by decide +kernel
theorem d_M_search_194 : decode b_M_search 194 = .ok (.ireturn, 1) := by decide +kernel
theorem d_M_named_0 : decode b_M_named 0 = .ok (.iconst 0, 1) := by decide +kernel
theorem d_M_named_1 : decode b_M_named 1 = .ok (.istore_n 3, 1) := by decide +kernel
theorem d_M_named_2 : decode b_M_named 2 = .ok (.iload_n 3, 1) := by decide +kernel
theorem d_M_named_3 : decode b_M_named 3 = .ok (.bipush 25, 2) := by decide +kernel
theorem d_M_named_5 : decode b_M_named 5 = .ok (.if_icmp .ge 31, 3) := by decide +kernel
theorem d_M_named_8 : decode b_M_named 8 = .ok (.aload_n 0, 1) := by decide +kernel
theorem d_M_named_9 : decode b_M_named 9 = .ok (.iconst 0, 1) := by decide +kernel
theorem d_M_named_10 : decode b_M_named 10 = .ok (.putfield 76, 3) := by decide +kernel
theorem d_M_named_13 : decode b_M_named 13 = .ok (.aload_n 0, 1) := by decide +kernel
theorem d_M_named_14 : decode b_M_named 14 = .ok (.iload_n 3, 1) := by decide +kernel
theorem d_M_named_15 : decode b_M_named 15 = .ok (.invokevirtual 110, 3) := by decide +kernel
theorem d_M_named_18 : decode b_M_named 18 = .ok (.aload_n 0, 1) := by decide +kernel
theorem d_M_named_19 : decode b_M_named 19 = .ok (.iload_n 1, 1) := by decide +kernel
theorem d_M_named_20 : decode b_M_named 20 = .ok (.iload_n 2, 1) := by decide +kernel
theorem d_M_named_21 : decode b_M_named 21 = .ok (.iconst 0, 1) := by decide +kernel
theorem d_M_named_22 : decode b_M_named 22 = .ok (.invokevirtual 195, 3) := by decide +kernel
theorem d_M_named_25 : decode b_M_named 25 = .ok (.ifCond .eq 5, 3) := by decide +kernel
theorem d_M_named_28 : decode b_M_named 28 = .ok (.iload_n 3, 1) := by decide +kernel
theorem d_M_named_29 : decode b_M_named 29 = .ok (.ireturn, 1) := by decide +kernel
theorem d_M_named_30 : decode b_M_named 30 = .ok (.iinc 3 1, 3) := by decide +kernel
theorem d_M_named_33 : decode b_M_named 33 = .ok (.goto (-31), 3) := by decide +kernel
theorem d_M_named_36 : decode b_M_named 36 = .ok (.iconst (-1), 1) := by decide +kernel
theorem d_M_named_37 : decode b_M_named 37 = .ok (.ireturn, 1) := by decide +kernel
theorem d_M_stands_0 : decode b_M_stands 0 = .ok (.iload_n 3, 1) := by decide +kernel
theorem d_M_stands_1 : decode b_M_stands 1 = .ok (.ifCond .eq 16, 3) := by decide +kernel
theorem d_M_stands_4 : decode b_M_stands 4 = .ok (.aload_n 0, 1) := by decide +kernel
theorem d_M_stands_5 : decode b_M_stands 5 = .ok (.getfield 76, 3) := by decide +kernel
theorem d_M_stands_8 : decode b_M_stands 8 = .ok (.iload_n 2, 1) := by decide +kernel
theorem d_M_stands_9 : decode b_M_stands 9 = .ok (.iload_n 1, 1) := by decide +kernel
theorem d_M_stands_10 : decode b_M_stands 10 = .ok (.isub, 1) := by decide +kernel
theorem d_M_stands_11 : decode b_M_stands 11 = .ok (.if_icmp .le 18, 3) := by decide +kernel
theorem d_M_stands_14 : decode b_M_stands 14 = .ok (.goto 13, 3) := by decide +kernel
theorem d_M_stands_17 : decode b_M_stands 17 = .ok (.aload_n 0, 1) := by decide +kernel
theorem d_M_stands_18 : decode b_M_stands 18 = .ok (.getfield 76, 3) := by decide +kernel
theorem d_M_stands_21 : decode b_M_stands 21 = .ok (.iload_n 2, 1) := by decide +kernel
theorem d_M_stands_22 : decode b_M_stands 22 = .ok (.iload_n 1, 1) := by decide +kernel
theorem d_M_stands_23 : decode b_M_stands 23 = .ok (.isub, 1) := by decide +kernel
theorem d_M_stands_24 : decode b_M_stands 24 = .ok (.if_icmp .eq 5, 3) := by decide +kernel
theorem d_M_stands_27 : decode b_M_stands 27 = .ok (.iconst 0, 1) := by decide +kernel
theorem d_M_stands_28 : decode b_M_stands 28 = .ok (.ireturn, 1) := by decide +kernel
theorem d_M_stands_29 : decode b_M_stands 29 = .ok (.iconst 0, 1) := by decide +kernel
theorem d_M_stands_30 : decode b_M_stands 30 = .ok (.istore 4, 2) := by decide +kernel
theorem d_M_stands_32 : decode b_M_stands 32 = .ok (.iload 4, 2) := by decide +kernel
theorem d_M_stands_34 : decode b_M_stands 34 = .ok (.aload_n 0, 1) := by decide +kernel
theorem d_M_stands_35 : decode b_M_stands 35 = .ok (.getfield 76, 3) := by decide +kernel
theorem d_M_stands_38 : decode b_M_stands 38 = .ok (.if_icmp .ge 30, 3) := by decide +kernel
theorem d_M_stands_41 : decode b_M_stands 41 = .ok (.aload_n 0, 1) := by decide +kernel
theorem d_M_stands_42 : decode b_M_stands 42 = .ok (.getfield 13, 3) := by decide +kernel
theorem d_M_stands_45 : decode b_M_stands 45 = .ok (.iload_n 1, 1) := by decide +kernel
theorem d_M_stands_46 : decode b_M_stands 46 = .ok (.iload 4, 2) := by decide +kernel
theorem d_M_stands_48 : decode b_M_stands 48 = .ok (.iadd, 1) := by decide +kernel
theorem d_M_stands_49 : decode b_M_stands 49 = .ok (.iaload, 1) := by decide +kernel
theorem d_M_stands_50 : decode b_M_stands 50 = .ok (.aload_n 0, 1) := by decide +kernel
theorem d_M_stands_51 : decode b_M_stands 51 = .ok (.getfield 7, 3) := by decide +kernel
theorem d_M_stands_54 : decode b_M_stands 54 = .ok (.iload 4, 2) := by decide +kernel
theorem d_M_stands_56 : decode b_M_stands 56 = .ok (.iaload, 1) := by decide +kernel
theorem d_M_stands_57 : decode b_M_stands 57 = .ok (.if_icmp .eq 5, 3) := by decide +kernel
theorem d_M_stands_60 : decode b_M_stands 60 = .ok (.iconst 0, 1) := by decide +kernel
theorem d_M_stands_61 : decode b_M_stands 61 = .ok (.ireturn, 1) := by decide +kernel
theorem d_M_stands_62 : decode b_M_stands 62 = .ok (.iinc 4 1, 3) := by decide +kernel
theorem d_M_stands_65 : decode b_M_stands 65 = .ok (.goto (-33), 3) := by decide +kernel
theorem d_M_stands_68 : decode b_M_stands 68 = .ok (.iconst 1, 1) := by decide +kernel
theorem d_M_stands_69 : decode b_M_stands 69 = .ok (.ireturn, 1) := by decide +kernel
theorem d_M_nested_0 : decode b_M_nested 0 = .ok (.aload_n 0, 1) := by decide +kernel
theorem d_M_nested_1 : decode b_M_nested 1 = .ok (.iconst 0, 1) := by decide +kernel
theorem d_M_nested_2 : decode b_M_nested 2 = .ok (.putfield 76, 3) := by decide +kernel
theorem d_M_nested_5 : decode b_M_nested 5 = .ok (.aload_n 0, 1) := by decide +kernel
theorem d_M_nested_6 : decode b_M_nested 6 = .ok (.bipush 11, 2) := by decide +kernel
theorem d_M_nested_8 : decode b_M_nested 8 = .ok (.invokevirtual 99, 3) := by decide +kernel
theorem d_M_nested_11 : decode b_M_nested 11 = .ok (.aload_n 0, 1) := by decide +kernel
theorem d_M_nested_12 : decode b_M_nested 12 = .ok (.bipush 36, 2) := by decide +kernel
theorem d_M_nested_14 : decode b_M_nested 14 = .ok (.invokevirtual 79, 3) := by decide +kernel
theorem d_M_nested_17 : decode b_M_nested 17 = .ok (.aload_n 0, 1) := by decide +kernel
theorem d_M_nested_18 : decode b_M_nested 18 = .ok (.iload_n 1, 1) := by decide +kernel
theorem d_M_nested_19 : decode b_M_nested 19 = .ok (.iload_n 2, 1) := by decide +kernel
theorem d_M_nested_20 : decode b_M_nested 20 = .ok (.iconst 1, 1) := by decide +kernel
theorem d_M_nested_21 : decode b_M_nested 21 = .ok (.invokevirtual 195, 3) := by decide +kernel
theorem d_M_nested_24 : decode b_M_nested 24 = .ok (.ireturn, 1) := by decide +kernel
theorem d_M_put_0 : decode b_M_put 0 = .ok (.iload_n 1, 1) := by decide +kernel
theorem d_M_put_1 : decode b_M_put 1 = .ok (.iconst 0, 1) := by decide +kernel
theorem d_M_put_2 : decode b_M_put 2 = .ok (.bipush 7, 2) := by decide +kernel
theorem d_M_put_4 : decode b_M_put 4 = .ok (.invokestatic 26, 3) := by decide +kernel
theorem d_M_put_7 : decode b_M_put 7 = .ok (.ifCond .eq 15, 3) := by decide +kernel
theorem d_M_put_10 : decode b_M_put 10 = .ok (.iload_n 2, 1) := by decide +kernel
theorem d_M_put_11 : decode b_M_put 11 = .ok (.iconst (-1), 1) := by decide +kernel
theorem d_M_put_12 : decode b_M_put 12 = .ok (.if_icmp .eq 12, 3) := by decide +kernel
theorem d_M_put_15 : decode b_M_put 15 = .ok (.iload_n 2, 1) := by decide +kernel
theorem d_M_put_16 : decode b_M_put 16 = .ok (.invokestatic 167, 3) := by decide +kernel
theorem d_M_put_19 : decode b_M_put 19 = .ok (.ifCond .ne 5, 3) := by decide +kernel
theorem d_M_put_22 : decode b_M_put 22 = .ok (.iconst (-1), 1) := by decide +kernel
theorem d_M_put_23 : decode b_M_put 23 = .ok (.ireturn, 1) := by decide +kernel
theorem d_M_put_24 : decode b_M_put 24 = .ok (.iload_n 2, 1) := by decide +kernel
theorem d_M_put_25 : decode b_M_put 25 = .ok (.bipush 11, 2) := by decide +kernel
theorem d_M_put_27 : decode b_M_put 27 = .ok (.if_icmp .eq 27, 3) := by decide +kernel
theorem d_M_put_30 : decode b_M_put 30 = .ok (.iload_n 2, 1) := by decide +kernel
theorem d_M_put_31 : decode b_M_put 31 = .ok (.bipush 16, 2) := by decide +kernel
theorem d_M_put_33 : decode b_M_put 33 = .ok (.if_icmp .eq 21, 3) := by decide +kernel
theorem d_M_put_36 : decode b_M_put 36 = .ok (.iload_n 2, 1) := by decide +kernel
theorem d_M_put_37 : decode b_M_put 37 = .ok (.bipush 17, 2) := by decide +kernel
theorem d_M_put_39 : decode b_M_put 39 = .ok (.if_icmp .eq 15, 3) := by decide +kernel
theorem d_M_put_42 : decode b_M_put 42 = .ok (.iload_n 2, 1) := by decide +kernel
theorem d_M_put_43 : decode b_M_put 43 = .ok (.bipush 23, 2) := by decide +kernel
theorem d_M_put_45 : decode b_M_put 45 = .ok (.if_icmp .eq 9, 3) := by decide +kernel
theorem d_M_put_48 : decode b_M_put 48 = .ok (.iload_n 2, 1) := by decide +kernel
theorem d_M_put_49 : decode b_M_put 49 = .ok (.bipush 24, 2) := by decide +kernel
theorem d_M_put_51 : decode b_M_put 51 = .ok (.if_icmp .ne 7, 3) := by decide +kernel
theorem d_M_put_54 : decode b_M_put 54 = .ok (.iconst 1, 1) := by decide +kernel
theorem d_M_put_55 : decode b_M_put 55 = .ok (.goto 4, 3) := by decide +kernel
theorem d_M_put_58 : decode b_M_put 58 = .ok (.iconst 0, 1) := by decide +kernel
theorem d_M_put_59 : decode b_M_put 59 = .ok (.istore_n 3, 1) := by decide +kernel
theorem d_M_put_60 : decode b_M_put 60 = .ok (.iload_n 2, 1) := by decide +kernel
theorem d_M_put_61 : decode b_M_put 61 = .ok (.iconst (-1), 1) := by decide +kernel
theorem d_M_put_62 : decode b_M_put 62 = .ok (.if_icmp .eq 49, 3) := by decide +kernel
theorem d_M_put_65 : decode b_M_put 65 = .ok (.iload_n 3, 1) := by decide +kernel
theorem d_M_put_66 : decode b_M_put 66 = .ok (.ifCond .ne 45, 3) := by decide +kernel
theorem d_M_put_69 : decode b_M_put 69 = .ok (.iload_n 2, 1) := by decide +kernel
theorem d_M_put_70 : decode b_M_put 70 = .ok (.bipush 40, 2) := by decide +kernel
theorem d_M_put_72 : decode b_M_put 72 = .ok (.if_icmp .ge 39, 3) := by decide +kernel
theorem d_M_put_75 : decode b_M_put 75 = .ok (.iload_n 2, 1) := by decide +kernel
theorem d_M_put_76 : decode b_M_put 76 = .ok (.bipush 9, 2) := by decide +kernel
theorem d_M_put_78 : decode b_M_put 78 = .ok (.if_icmp .eq 33, 3) := by decide +kernel
theorem d_M_put_81 : decode b_M_put 81 = .ok (.iload_n 2, 1) := by decide +kernel
theorem d_M_put_82 : decode b_M_put 82 = .ok (.bipush 14, 2) := by decide +kernel
theorem d_M_put_84 : decode b_M_put 84 = .ok (.if_icmp .eq 27, 3) := by decide +kernel
theorem d_M_put_87 : decode b_M_put 87 = .ok (.iload_n 2, 1) := by decide +kernel
theorem d_M_put_88 : decode b_M_put 88 = .ok (.bipush 15, 2) := by decide +kernel
theorem d_M_put_90 : decode b_M_put 90 = .ok (.if_icmp .eq 21, 3) := by decide +kernel
theorem d_M_put_93 : decode b_M_put 93 = .ok (.iload_n 2, 1) := by decide +kernel
theorem d_M_put_94 : decode b_M_put 94 = .ok (.bipush 18, 2) := by decide +kernel
theorem d_M_put_96 : decode b_M_put 96 = .ok (.if_icmp .eq 15, 3) := by decide +kernel
theorem d_M_put_99 : decode b_M_put 99 = .ok (.iload_n 2, 1) := by decide +kernel
theorem d_M_put_100 : decode b_M_put 100 = .ok (.bipush 19, 2) := by decide +kernel
theorem d_M_put_102 : decode b_M_put 102 = .ok (.if_icmp .eq 9, 3) := by decide +kernel
theorem d_M_put_105 : decode b_M_put 105 = .ok (.iload_n 2, 1) := by decide +kernel
theorem d_M_put_106 : decode b_M_put 106 = .ok (.bipush 22, 2) := by decide +kernel
theorem d_M_put_108 : decode b_M_put 108 = .ok (.if_icmp .ne 7, 3) := by decide +kernel
theorem d_M_put_111 : decode b_M_put 111 = .ok (.iconst 1, 1) := by decide +kernel
theorem d_M_put_112 : decode b_M_put 112 = .ok (.goto 4, 3) := by decide +kernel
theorem d_M_put_115 : decode b_M_put 115 = .ok (.iconst 0, 1) := by decide +kernel
theorem d_M_put_116 : decode b_M_put 116 = .ok (.istore 4, 2) := by decide +kernel
theorem d_M_put_118 : decode b_M_put 118 = .ok (.iload 4, 2) := by decide +kernel
theorem d_M_put_120 : decode b_M_put 120 = .ok (.ifCond .ne 6, 3) := by decide +kernel
theorem d_M_put_123 : decode b_M_put 123 = .ok (.bipush (-2), 2) := by decide +kernel
theorem d_M_put_125 : decode b_M_put 125 = .ok (.ireturn, 1) := by decide +kernel
theorem d_M_put_126 : decode b_M_put 126 = .ok (.aload_n 0, 1) := by decide +kernel
theorem d_M_put_127 : decode b_M_put 127 = .ok (.dup, 1) := by decide +kernel
theorem d_M_put_128 : decode b_M_put 128 = .ok (.getfield 22, 3) := by decide +kernel
theorem d_M_put_131 : decode b_M_put 131 = .ok (.iconst 1, 1) := by decide +kernel
theorem d_M_put_132 : decode b_M_put 132 = .ok (.iadd, 1) := by decide +kernel
theorem d_M_put_133 : decode b_M_put 133 = .ok (.putfield 22, 3) := by decide +kernel
theorem d_M_put_136 : decode b_M_put 136 = .ok (.aload_n 0, 1) := by decide +kernel
theorem d_M_put_137 : decode b_M_put 137 = .ok (.getfield 16, 3) := by decide +kernel
theorem d_M_put_140 : decode b_M_put 140 = .ok (.iload_n 1, 1) := by decide +kernel
theorem d_M_put_141 : decode b_M_put 141 = .ok (.iload_n 2, 1) := by decide +kernel
theorem d_M_put_142 : decode b_M_put 142 = .ok (.iastore, 1) := by decide +kernel
theorem d_M_put_143 : decode b_M_put 143 = .ok (.aload_n 0, 1) := by decide +kernel
theorem d_M_put_144 : decode b_M_put 144 = .ok (.getfield 19, 3) := by decide +kernel
theorem d_M_put_147 : decode b_M_put 147 = .ok (.iload_n 1, 1) := by decide +kernel
theorem d_M_put_148 : decode b_M_put 148 = .ok (.iload_n 3, 1) := by decide +kernel
theorem d_M_put_149 : decode b_M_put 149 = .ok (.ifCond .eq 7, 3) := by decide +kernel
theorem d_M_put_152 : decode b_M_put 152 = .ok (.iload_n 2, 1) := by decide +kernel
theorem d_M_put_153 : decode b_M_put 153 = .ok (.goto 7, 3) := by decide +kernel
theorem d_M_put_156 : decode b_M_put 156 = .ok (.aload_n 0, 1) := by decide +kernel
theorem d_M_put_157 : decode b_M_put 157 = .ok (.getfield 22, 3) := by decide +kernel
theorem d_M_put_160 : decode b_M_put 160 = .ok (.iastore, 1) := by decide +kernel
theorem d_M_put_161 : decode b_M_put 161 = .ok (.iconst 0, 1) := by decide +kernel
theorem d_M_put_162 : decode b_M_put 162 = .ok (.ireturn, 1) := by decide +kernel
theorem d_M_typeOf_0 : decode b_M_typeOf 0 = .ok (.iload_n 1, 1) := by decide +kernel
theorem d_M_typeOf_1 : decode b_M_typeOf 1 = .ok (.iconst 0, 1) := by decide +kernel
theorem d_M_typeOf_2 : decode b_M_typeOf 2 = .ok (.bipush 7, 2) := by decide +kernel
theorem d_M_typeOf_4 : decode b_M_typeOf 4 = .ok (.invokestatic 26, 3) := by decide +kernel
theorem d_M_typeOf_7 : decode b_M_typeOf 7 = .ok (.ifCond .ne 5, 3) := by decide +kernel
theorem d_M_typeOf_10 : decode b_M_typeOf 10 = .ok (.iconst (-1), 1) := by decide +kernel
theorem d_M_typeOf_11 : decode b_M_typeOf 11 = .ok (.ireturn, 1) := by decide +kernel
theorem d_M_typeOf_12 : decode b_M_typeOf 12 = .ok (.aload_n 0, 1) := by decide +kernel
theorem d_M_typeOf_13 : decode b_M_typeOf 13 = .ok (.getfield 16, 3) := by decide +kernel
theorem d_M_typeOf_16 : decode b_M_typeOf 16 = .ok (.iload_n 1, 1) := by decide +kernel
theorem d_M_typeOf_17 : decode b_M_typeOf 17 = .ok (.iaload, 1) := by decide +kernel
theorem d_M_typeOf_18 : decode b_M_typeOf 18 = .ok (.ifCond .ge 8, 3) := by decide +kernel
theorem d_M_typeOf_21 : decode b_M_typeOf 21 = .ok (.bipush (-2), 2) := by decide +kernel
theorem d_M_typeOf_23 : decode b_M_typeOf 23 = .ok (.goto 9, 3) := by decide +kernel
theorem d_M_typeOf_26 : decode b_M_typeOf 26 = .ok (.aload_n 0, 1) := by decide +kernel
theorem d_M_typeOf_27 : decode b_M_typeOf 27 = .ok (.getfield 16, 3) := by decide +kernel
theorem d_M_typeOf_30 : decode b_M_typeOf 30 = .ok (.iload_n 1, 1) := by decide +kernel
theorem d_M_typeOf_31 : decode b_M_typeOf 31 = .ok (.iaload, 1) := by decide +kernel
theorem d_M_typeOf_32 : decode b_M_typeOf 32 = .ok (.ireturn, 1) := by decide +kernel
theorem d_M_isOf_0 : decode b_M_isOf 0 = .ok (.iload_n 1, 1) := by decide +kernel
theorem d_M_isOf_1 : decode b_M_isOf 1 = .ok (.iconst 0, 1) := by decide +kernel
theorem d_M_isOf_2 : decode b_M_isOf 2 = .ok (.bipush 7, 2) := by decide +kernel
theorem d_M_isOf_4 : decode b_M_isOf 4 = .ok (.invokestatic 26, 3) := by decide +kernel
theorem d_M_isOf_7 : decode b_M_isOf 7 = .ok (.ifCond .eq 36, 3) := by decide +kernel
theorem d_M_isOf_10 : decode b_M_isOf 10 = .ok (.iload_n 2, 1) := by decide +kernel
theorem d_M_isOf_11 : decode b_M_isOf 11 = .ok (.invokestatic 167, 3) := by decide +kernel
theorem d_M_isOf_14 : decode b_M_isOf 14 = .ok (.ifCond .eq 29, 3) := by decide +kernel
theorem d_M_isOf_17 : decode b_M_isOf 17 = .ok (.aload_n 0, 1) := by decide +kernel
theorem d_M_isOf_18 : decode b_M_isOf 18 = .ok (.getfield 16, 3) := by decide +kernel
theorem d_M_isOf_21 : decode b_M_isOf 21 = .ok (.iload_n 1, 1) := by decide +kernel
theorem d_M_isOf_22 : decode b_M_isOf 22 = .ok (.iaload, 1) := by decide +kernel
theorem d_M_isOf_23 : decode b_M_isOf 23 = .ok (.ifCond .lt 20, 3) := by decide +kernel
theorem d_M_isOf_26 : decode b_M_isOf 26 = .ok (.aload_n 0, 1) := by decide +kernel
theorem d_M_isOf_27 : decode b_M_isOf 27 = .ok (.getfield 16, 3) := by decide +kernel
theorem d_M_isOf_30 : decode b_M_isOf 30 = .ok (.iload_n 1, 1) := by decide +kernel
theorem d_M_isOf_31 : decode b_M_isOf 31 = .ok (.iaload, 1) := by decide +kernel
theorem d_M_isOf_32 : decode b_M_isOf 32 = .ok (.iload_n 2, 1) := by decide +kernel
theorem d_M_isOf_33 : decode b_M_isOf 33 = .ok (.invokestatic 186, 3) := by decide +kernel
theorem d_M_isOf_36 : decode b_M_isOf 36 = .ok (.ifCond .eq 7, 3) := by decide +kernel
theorem d_M_isOf_39 : decode b_M_isOf 39 = .ok (.iconst 1, 1) := by decide +kernel
theorem d_M_isOf_40 : decode b_M_isOf 40 = .ok (.goto 4, 3) := by decide +kernel
theorem d_M_isOf_43 : decode b_M_isOf 43 = .ok (.iconst 0, 1) := by decide +kernel
theorem d_M_isOf_44 : decode b_M_isOf 44 = .ok (.ireturn, 1) := by decide +kernel
theorem d_M_cast_0 : decode b_M_cast 0 = .ok (.iload_n 1, 1) := by decide +kernel
theorem d_M_cast_1 : decode b_M_cast 1 = .ok (.iconst 0, 1) := by decide +kernel
theorem d_M_cast_2 : decode b_M_cast 2 = .ok (.bipush 7, 2) := by decide +kernel
theorem d_M_cast_4 : decode b_M_cast 4 = .ok (.invokestatic 26, 3) := by decide +kernel
theorem d_M_cast_7 : decode b_M_cast 7 = .ok (.ifCond .eq 10, 3) := by decide +kernel
theorem d_M_cast_10 : decode b_M_cast 10 = .ok (.iload_n 2, 1) := by decide +kernel
theorem d_M_cast_11 : decode b_M_cast 11 = .ok (.invokestatic 167, 3) := by decide +kernel
theorem d_M_cast_14 : decode b_M_cast 14 = .ok (.ifCond .ne 5, 3) := by decide +kernel
theorem d_M_cast_17 : decode b_M_cast 17 = .ok (.iconst (-1), 1) := by decide +kernel
theorem d_M_cast_18 : decode b_M_cast 18 = .ok (.ireturn, 1) := by decide +kernel
theorem d_M_cast_19 : decode b_M_cast 19 = .ok (.aload_n 0, 1) := by decide +kernel
theorem d_M_cast_20 : decode b_M_cast 20 = .ok (.getfield 16, 3) := by decide +kernel
theorem d_M_cast_23 : decode b_M_cast 23 = .ok (.iload_n 1, 1) := by decide +kernel
theorem d_M_cast_24 : decode b_M_cast 24 = .ok (.iaload, 1) := by decide +kernel
theorem d_M_cast_25 : decode b_M_cast 25 = .ok (.ifCond .lt 16, 3) := by decide +kernel
theorem d_M_cast_28 : decode b_M_cast 28 = .ok (.aload_n 0, 1) := by decide +kernel
theorem d_M_cast_29 : decode b_M_cast 29 = .ok (.getfield 16, 3) := by decide +kernel
theorem d_M_cast_32 : decode b_M_cast 32 = .ok (.iload_n 1, 1) := by decide +kernel
theorem d_M_cast_33 : decode b_M_cast 33 = .ok (.iaload, 1) := by decide +kernel
theorem d_M_cast_34 : decode b_M_cast 34 = .ok (.iload_n 2, 1) := by decide +kernel
theorem d_M_cast_35 : decode b_M_cast 35 = .ok (.invokestatic 186, 3) := by decide +kernel
theorem d_M_cast_38 : decode b_M_cast 38 = .ok (.ifCond .eq 7, 3) := by decide +kernel
theorem d_M_cast_41 : decode b_M_cast 41 = .ok (.iconst 0, 1) := by decide +kernel
theorem d_M_cast_42 : decode b_M_cast 42 = .ok (.goto 5, 3) := by decide +kernel
theorem d_M_cast_45 : decode b_M_cast 45 = .ok (.bipush (-5), 2) := by decide +kernel
theorem d_M_cast_47 : decode b_M_cast 47 = .ok (.ireturn, 1) := by decide +kernel
theorem d_M_light_0 : decode b_M_light 0 = .ok (.iload_n 1, 1) := by decide +kernel
theorem d_M_light_1 : decode b_M_light 1 = .ok (.iconst 0, 1) := by decide +kernel
theorem d_M_light_2 : decode b_M_light 2 = .ok (.bipush 7, 2) := by decide +kernel
theorem d_M_light_4 : decode b_M_light 4 = .ok (.invokestatic 26, 3) := by decide +kernel
theorem d_M_light_7 : decode b_M_light 7 = .ok (.ifCond .ne 5, 3) := by decide +kernel
theorem d_M_light_10 : decode b_M_light 10 = .ok (.iconst (-1), 1) := by decide +kernel
theorem d_M_light_11 : decode b_M_light 11 = .ok (.ireturn, 1) := by decide +kernel
theorem d_M_light_12 : decode b_M_light 12 = .ok (.aload_n 0, 1) := by decide +kernel
theorem d_M_light_13 : decode b_M_light 13 = .ok (.getfield 16, 3) := by decide +kernel
theorem d_M_light_16 : decode b_M_light 16 = .ok (.iload_n 1, 1) := by decide +kernel
theorem d_M_light_17 : decode b_M_light 17 = .ok (.iaload, 1) := by decide +kernel
theorem d_M_light_18 : decode b_M_light 18 = .ok (.istore_n 2, 1) := by decide +kernel
theorem d_M_light_19 : decode b_M_light 19 = .ok (.iload_n 2, 1) := by decide +kernel
theorem d_M_light_20 : decode b_M_light 20 = .ok (.ifCond .ge 8, 3) := by decide +kernel
theorem d_M_light_23 : decode b_M_light 23 = .ok (.bipush (-2), 2) := by decide +kernel
theorem d_M_light_25 : decode b_M_light 25 = .ok (.goto 37, 3) := by decide +kernel
theorem d_M_light_28 : decode b_M_light 28 = .ok (.iload_n 2, 1) := by decide +kernel
theorem d_M_light_29 : decode b_M_light 29 = .ok (.bipush 16, 2) := by decide +kernel
theorem d_M_light_31 : decode b_M_light 31 = .ok (.if_icmp .ne 7, 3) := by decide +kernel
theorem d_M_light_34 : decode b_M_light 34 = .ok (.iconst 1, 1) := by decide +kernel
theorem d_M_light_35 : decode b_M_light 35 = .ok (.goto 27, 3) := by decide +kernel
theorem d_M_light_38 : decode b_M_light 38 = .ok (.iload_n 2, 1) := by decide +kernel
theorem d_M_light_39 : decode b_M_light 39 = .ok (.bipush 17, 2) := by decide +kernel
theorem d_M_light_41 : decode b_M_light 41 = .ok (.if_icmp .ne 8, 3) := by decide +kernel
theorem d_M_light_44 : decode b_M_light 44 = .ok (.bipush 12, 2) := by decide +kernel
theorem d_M_light_46 : decode b_M_light 46 = .ok (.goto 16, 3) := by decide +kernel
theorem d_M_light_49 : decode b_M_light 49 = .ok (.iload_n 2, 1) := by decide +kernel
theorem d_M_light_50 : decode b_M_light 50 = .ok (.bipush 14, 2) := by decide +kernel
theorem d_M_light_52 : decode b_M_light 52 = .ok (.if_icmp .ne 8, 3) := by decide +kernel
theorem d_M_light_55 : decode b_M_light 55 = .ok (.bipush 114, 2) := by decide +kernel
theorem d_M_light_57 : decode b_M_light 57 = .ok (.goto 5, 3) := by decide +kernel
theorem d_M_light_60 : decode b_M_light 60 = .ok (.bipush (-3), 2) := by decide +kernel
theorem d_M_light_62 : decode b_M_light 62 = .ok (.ireturn, 1) := by decide +kernel
theorem d_M_alike_0 : decode b_M_alike 0 = .ok (.iload_n 1, 1) := by decide +kernel
theorem d_M_alike_1 : decode b_M_alike 1 = .ok (.iconst 0, 1) := by decide +kernel
theorem d_M_alike_2 : decode b_M_alike 2 = .ok (.bipush 7, 2) := by decide +kernel
theorem d_M_alike_4 : decode b_M_alike 4 = .ok (.invokestatic 26, 3) := by decide +kernel
theorem d_M_alike_7 : decode b_M_alike 7 = .ok (.ifCond .eq 28, 3) := by decide +kernel
theorem d_M_alike_10 : decode b_M_alike 10 = .ok (.iload_n 2, 1) := by decide +kernel
theorem d_M_alike_11 : decode b_M_alike 11 = .ok (.iconst 0, 1) := by decide +kernel
theorem d_M_alike_12 : decode b_M_alike 12 = .ok (.bipush 7, 2) := by decide +kernel
theorem d_M_alike_14 : decode b_M_alike 14 = .ok (.invokestatic 26, 3) := by decide +kernel
theorem d_M_alike_17 : decode b_M_alike 17 = .ok (.ifCond .eq 18, 3) := by decide +kernel
theorem d_M_alike_20 : decode b_M_alike 20 = .ok (.aload_n 0, 1) := by decide +kernel
theorem d_M_alike_21 : decode b_M_alike 21 = .ok (.getfield 16, 3) := by decide +kernel
theorem d_M_alike_24 : decode b_M_alike 24 = .ok (.iload_n 1, 1) := by decide +kernel
theorem d_M_alike_25 : decode b_M_alike 25 = .ok (.iaload, 1) := by decide +kernel
theorem d_M_alike_26 : decode b_M_alike 26 = .ok (.aload_n 0, 1) := by decide +kernel
theorem d_M_alike_27 : decode b_M_alike 27 = .ok (.getfield 16, 3) := by decide +kernel
theorem d_M_alike_30 : decode b_M_alike 30 = .ok (.iload_n 2, 1) := by decide +kernel
theorem d_M_alike_31 : decode b_M_alike 31 = .ok (.iaload, 1) := by decide +kernel
theorem d_M_alike_32 : decode b_M_alike 32 = .ok (.if_icmp .eq 5, 3) := by decide +kernel
theorem d_M_alike_35 : decode b_M_alike 35 = .ok (.iconst 0, 1) := by decide +kernel
theorem d_M_alike_36 : decode b_M_alike 36 = .ok (.ireturn, 1) := by decide +kernel
theorem d_M_alike_37 : decode b_M_alike 37 = .ok (.aload_n 0, 1) := by decide +kernel
theorem d_M_alike_38 : decode b_M_alike 38 = .ok (.getfield 16, 3) := by decide +kernel
theorem d_M_alike_41 : decode b_M_alike 41 = .ok (.iload_n 1, 1) := by decide +kernel
theorem d_M_alike_42 : decode b_M_alike 42 = .ok (.iaload, 1) := by decide +kernel
theorem d_M_alike_43 : decode b_M_alike 43 = .ok (.ifCond .lt 29, 3) := by decide +kernel
theorem d_M_alike_46 : decode b_M_alike 46 = .ok (.aload_n 0, 1) := by decide +kernel
theorem d_M_alike_47 : decode b_M_alike 47 = .ok (.getfield 16, 3) := by decide +kernel
theorem d_M_alike_50 : decode b_M_alike 50 = .ok (.iload_n 1, 1) := by decide +kernel
theorem d_M_alike_51 : decode b_M_alike 51 = .ok (.iaload, 1) := by decide +kernel
theorem d_M_alike_52 : decode b_M_alike 52 = .ok (.bipush 14, 2) := by decide +kernel
theorem d_M_alike_54 : decode b_M_alike 54 = .ok (.if_icmp .eq 18, 3) := by decide +kernel
theorem d_M_alike_57 : decode b_M_alike 57 = .ok (.aload_n 0, 1) := by decide +kernel
theorem d_M_alike_58 : decode b_M_alike 58 = .ok (.getfield 19, 3) := by decide +kernel
theorem d_M_alike_61 : decode b_M_alike 61 = .ok (.iload_n 1, 1) := by decide +kernel
theorem d_M_alike_62 : decode b_M_alike 62 = .ok (.iaload, 1) := by decide +kernel
theorem d_M_alike_63 : decode b_M_alike 63 = .ok (.aload_n 0, 1) := by decide +kernel
theorem d_M_alike_64 : decode b_M_alike 64 = .ok (.getfield 19, 3) := by decide +kernel
theorem d_M_alike_67 : decode b_M_alike 67 = .ok (.iload_n 2, 1) := by decide +kernel
theorem d_M_alike_68 : decode b_M_alike 68 = .ok (.iaload, 1) := by decide +kernel
theorem d_M_alike_69 : decode b_M_alike 69 = .ok (.if_icmp .ne 7, 3) := by decide +kernel
theorem d_M_alike_72 : decode b_M_alike 72 = .ok (.iconst 1, 1) := by decide +kernel
theorem d_M_alike_73 : decode b_M_alike 73 = .ok (.goto 4, 3) := by decide +kernel
theorem d_M_alike_76 : decode b_M_alike 76 = .ok (.iconst 0, 1) := by decide +kernel
theorem d_M_alike_77 : decode b_M_alike 77 = .ok (.ireturn, 1) := by decide +kernel
end
section
def f_B_levels (t : Int32) : Int32 := (t / 40)
set_option maxRecDepth 100000 in
theorem k_B_levels : ck y_B_levels b_B_levels 1 (some .int) 1 (.static y_B_levels) := ⟨tk_of (List.mem_of_getElem? (i := 138) rfl) rfl, tk_of (List.mem_of_getElem? (i := 137) (by decide +kernel)) rfl, tk_of (List.mem_of_getElem? (i := 44) (by decide +kernel)) rfl, by decide +kernel⟩
set_option maxHeartbeats 4000000 in
set_option maxRecDepth 100000 in
theorem c_B_levels (l : Launch) (t : Int32) : pmI l y_B_levels b_B_levels 1 .int 0 0 [.int t] (fun r => r = f_B_levels t) := by
  refine pm_of (by decide) (Nat.le_of_ble_eq_true rfl) ?_
  intro p e s m below meth c ls hx hb hF hr hlk hN hl
  have hl : lv_has ls 1 [(0, .int t)] := hl
  refine lv_iload_n hx hb d_B_levels_0 rfl (lv_at hl 0 rfl) ?_
  refine lv_bipush (v := 40) hx hb d_B_levels_1 (by decide) ?_
  refine lv_idiv hx hb d_B_levels_3 (by decide) ?_
  exact pm_ret hx hb hr hlk (nar_i _) rfl d_B_levels_4
def f_B_plain (t : Int32) : Int32 := (t - t / 40 * 40)
set_option maxRecDepth 100000 in
theorem k_B_plain : ck y_B_plain b_B_plain 1 (some .int) 1 (.static y_B_plain) := ⟨tk_of (List.mem_of_getElem? (i := 141) rfl) rfl, tk_of (List.mem_of_getElem? (i := 140) (by decide +kernel)) rfl, tk_of (List.mem_of_getElem? (i := 44) (by decide +kernel)) rfl, by decide +kernel⟩
set_option maxHeartbeats 4000000 in
set_option maxRecDepth 100000 in
theorem c_B_plain (l : Launch) (t : Int32) : pmI l y_B_plain b_B_plain 1 .int 0 0 [.int t] (fun r => r = f_B_plain t) := by
  refine pm_of (by decide) (Nat.le_of_ble_eq_true rfl) ?_
  intro p e s m below meth c ls hx hb hF hr hlk hN hl
  have hl : lv_has ls 1 [(0, .int t)] := hl
  refine lv_iload_n hx hb d_B_plain_0 rfl (lv_at hl 0 rfl) ?_
  refine lv_bipush (v := 40) hx hb d_B_plain_1 (by decide) ?_
  refine lv_irem hx hb d_B_plain_3 (by decide) ?_
  exact pm_ret hx hb hr hlk (nar_i _) rfl d_B_plain_4
def f_B_isArray (t : Int32) : Int32 := (if t < 40 then 0 else 1)
set_option maxRecDepth 100000 in
theorem z_B_isArray (t : Int32) : f_B_isArray t = 0 ∨ f_B_isArray t = 1 := by
  unfold f_B_isArray
  repeat' first | with_reducible refine z_ite ?_ ?_ | with_reducible exact Or.inl rfl | with_reducible exact Or.inr rfl
set_option maxRecDepth 100000 in
theorem k_B_isArray : ck y_B_isArray b_B_isArray 1 (some .boolean) 1 (.static y_B_isArray) := ⟨tk_of (List.mem_of_getElem? (i := 213) rfl) rfl, tk_of (List.mem_of_getElem? (i := 212) (by decide +kernel)) rfl, tk_of (List.mem_of_getElem? (i := 44) (by decide +kernel)) rfl, by decide +kernel⟩
set_option maxHeartbeats 4000000 in
set_option maxRecDepth 100000 in
theorem c_B_isArray (l : Launch) (t : Int32) : pmI l y_B_isArray b_B_isArray 1 .boolean 0 0 [.int t] (fun r => r = f_B_isArray t) := by
  refine pm_of (by decide) (Nat.le_of_ble_eq_true rfl) ?_
  intro p e s m below meth c ls hx hb hF hr hlk hN hl
  have hl : lv_has ls 1 [(0, .int t)] := hl
  refine lv_iload_n hx hb d_B_isArray_0 rfl (lv_at hl 0 rfl) ?_
  refine lv_bipush (v := 40) hx hb d_B_isArray_1 (by decide) ?_
  refine lv_icmp_lt (tgt := 10) hx hb d_B_isArray_3 (by decide) (fun c_1 => ?_) (fun c_1 => ?_)
  · skip
    refine lv_iconst (v := 0) hx hb d_B_isArray_10 (by decide) ?_
    exact pm_ret hx hb hr hlk (by decide) (by rw [f_B_isArray, if_pos c_1]) d_B_isArray_11
  · skip
    refine lv_iconst (v := 1) hx hb d_B_isArray_6 (by decide) ?_
    refine lv_goto (tgt := 11) hx hb d_B_isArray_7 (by decide) ?_
    exact pm_ret hx hb hr hlk (by decide) (by rw [f_B_isArray, if_neg c_1]) d_B_isArray_11
def f_B_isPrimitive (t : Int32) : Int32 := (if 8 < t then 0 else 1)
set_option maxRecDepth 100000 in
theorem z_B_isPrimitive (t : Int32) : f_B_isPrimitive t = 0 ∨ f_B_isPrimitive t = 1 := by
  unfold f_B_isPrimitive
  repeat' first | with_reducible refine z_ite ?_ ?_ | with_reducible exact Or.inl rfl | with_reducible exact Or.inr rfl
set_option maxRecDepth 100000 in
theorem k_B_isPrimitive : ck y_B_isPrimitive b_B_isPrimitive 1 (some .boolean) 1 (.static y_B_isPrimitive) := ⟨tk_of (List.mem_of_getElem? (i := 276) rfl) rfl, tk_of (List.mem_of_getElem? (i := 275) (by decide +kernel)) rfl, tk_of (List.mem_of_getElem? (i := 44) (by decide +kernel)) rfl, by decide +kernel⟩
set_option maxHeartbeats 4000000 in
set_option maxRecDepth 100000 in
theorem c_B_isPrimitive (l : Launch) (t : Int32) : pmI l y_B_isPrimitive b_B_isPrimitive 1 .boolean 0 0 [.int t] (fun r => r = f_B_isPrimitive t) := by
  refine pm_of (by decide) (Nat.le_of_ble_eq_true rfl) ?_
  intro p e s m below meth c ls hx hb hF hr hlk hN hl
  have hl : lv_has ls 1 [(0, .int t)] := hl
  refine lv_iload_n hx hb d_B_isPrimitive_0 rfl (lv_at hl 0 rfl) ?_
  refine lv_bipush (v := 8) hx hb d_B_isPrimitive_1 (by decide) ?_
  refine lv_icmp_gt (tgt := 10) hx hb d_B_isPrimitive_3 (by decide) (fun c_1 => ?_) (fun c_1 => ?_)
  · skip
    refine lv_iconst (v := 0) hx hb d_B_isPrimitive_10 (by decide) ?_
    exact pm_ret hx hb hr hlk (by decide) (by rw [f_B_isPrimitive, if_pos c_1]) d_B_isPrimitive_11
  · skip
    refine lv_iconst (v := 1) hx hb d_B_isPrimitive_6 (by decide) ?_
    refine lv_goto (tgt := 11) hx hb d_B_isPrimitive_7 (by decide) ?_
    exact pm_ret hx hb hr hlk (by decide) (by rw [f_B_isPrimitive, if_neg c_1]) d_B_isPrimitive_11
def f_B_isInterface (t : Int32) : Int32 := (if t = 10 then 1 else (if t = 12 then 1 else (if t = 13 then 1 else (if t = 20 then 1 else 0))))
set_option maxRecDepth 100000 in
theorem z_B_isInterface (t : Int32) : f_B_isInterface t = 0 ∨ f_B_isInterface t = 1 := by
  unfold f_B_isInterface
  repeat' first | with_reducible refine z_ite ?_ ?_ | with_reducible exact Or.inl rfl | with_reducible exact Or.inr rfl
set_option maxRecDepth 100000 in
theorem k_B_isInterface : ck y_B_isInterface b_B_isInterface 1 (some .boolean) 1 (.static y_B_isInterface) := ⟨tk_of (List.mem_of_getElem? (i := 400) rfl) rfl, tk_of (List.mem_of_getElem? (i := 399) (by decide +kernel)) rfl, tk_of (List.mem_of_getElem? (i := 44) (by decide +kernel)) rfl, by decide +kernel⟩
set_option maxHeartbeats 4000000 in
set_option maxRecDepth 100000 in
theorem c_B_isInterface (l : Launch) (t : Int32) : pmI l y_B_isInterface b_B_isInterface 1 .boolean 0 0 [.int t] (fun r => r = f_B_isInterface t) := by
  refine pm_of (by decide) (Nat.le_of_ble_eq_true rfl) ?_
  intro p e s m below meth c ls hx hb hF hr hlk hN hl
  have hl : lv_has ls 1 [(0, .int t)] := hl
  refine lv_iload_n hx hb d_B_isInterface_0 rfl (lv_at hl 0 rfl) ?_
  refine lv_bipush (v := 10) hx hb d_B_isInterface_1 (by decide) ?_
  refine lv_icmp_eq (tgt := 24) hx hb d_B_isInterface_3 (by decide) (fun c_1 => ?_) (fun c_1 => ?_)
  · skip
    refine lv_iconst (v := 1) hx hb d_B_isInterface_24 (by decide) ?_
    refine lv_goto (tgt := 29) hx hb d_B_isInterface_25 (by decide) ?_
    exact pm_ret hx hb hr hlk (by decide) (by rw [f_B_isInterface, if_pos c_1]) d_B_isInterface_29
  · skip
    refine lv_iload_n hx hb d_B_isInterface_6 rfl (lv_at hl 0 rfl) ?_
    refine lv_bipush (v := 12) hx hb d_B_isInterface_7 (by decide) ?_
    refine lv_icmp_eq (tgt := 24) hx hb d_B_isInterface_9 (by decide) (fun c_2 => ?_) (fun c_2 => ?_)
    · skip
      refine lv_iconst (v := 1) hx hb d_B_isInterface_24 (by decide) ?_
      refine lv_goto (tgt := 29) hx hb d_B_isInterface_25 (by decide) ?_
      exact pm_ret hx hb hr hlk (by decide) (by rw [f_B_isInterface, if_neg c_1, if_pos c_2]) d_B_isInterface_29
    · skip
      refine lv_iload_n hx hb d_B_isInterface_12 rfl (lv_at hl 0 rfl) ?_
      refine lv_bipush (v := 13) hx hb d_B_isInterface_13 (by decide) ?_
      refine lv_icmp_eq (tgt := 24) hx hb d_B_isInterface_15 (by decide) (fun c_3 => ?_) (fun c_3 => ?_)
      · skip
        refine lv_iconst (v := 1) hx hb d_B_isInterface_24 (by decide) ?_
        refine lv_goto (tgt := 29) hx hb d_B_isInterface_25 (by decide) ?_
        exact pm_ret hx hb hr hlk (by decide) (by rw [f_B_isInterface, if_neg c_1, if_neg c_2, if_pos c_3]) d_B_isInterface_29
      · skip
        refine lv_iload_n hx hb d_B_isInterface_18 rfl (lv_at hl 0 rfl) ?_
        refine lv_bipush (v := 20) hx hb d_B_isInterface_19 (by decide) ?_
        refine lv_icmp_ne (tgt := 28) hx hb d_B_isInterface_21 (by decide) (fun c_4 => ?_) (fun c_4 => ?_)
        · skip
          refine lv_iconst (v := 0) hx hb d_B_isInterface_28 (by decide) ?_
          exact pm_ret hx hb hr hlk (by decide) (by rw [f_B_isInterface, if_neg c_1, if_neg c_2, if_neg c_3, if_neg c_4]) d_B_isInterface_29
        · skip
          refine lv_iconst (v := 1) hx hb d_B_isInterface_24 (by decide) ?_
          refine lv_goto (tgt := 29) hx hb d_B_isInterface_25 (by decide) ?_
          exact pm_ret hx hb hr hlk (by decide) (by rw [f_B_isInterface, if_neg c_1, if_neg c_2, if_neg c_3, if_pos c_4]) d_B_isInterface_29
def f_B_isNameless (t : Int32) : Int32 := (if t = 17 then 1 else (if t = 24 then 1 else 0))
set_option maxRecDepth 100000 in
theorem z_B_isNameless (t : Int32) : f_B_isNameless t = 0 ∨ f_B_isNameless t = 1 := by
  unfold f_B_isNameless
  repeat' first | with_reducible refine z_ite ?_ ?_ | with_reducible exact Or.inl rfl | with_reducible exact Or.inr rfl
set_option maxRecDepth 100000 in
theorem k_B_isNameless : ck y_B_isNameless b_B_isNameless 1 (some .boolean) 1 (.static y_B_isNameless) := ⟨tk_of (List.mem_of_getElem? (i := 388) rfl) rfl, tk_of (List.mem_of_getElem? (i := 387) (by decide +kernel)) rfl, tk_of (List.mem_of_getElem? (i := 44) (by decide +kernel)) rfl, by decide +kernel⟩
set_option maxHeartbeats 4000000 in
set_option maxRecDepth 100000 in
theorem c_B_isNameless (l : Launch) (t : Int32) : pmI l y_B_isNameless b_B_isNameless 1 .boolean 0 0 [.int t] (fun r => r = f_B_isNameless t) := by
  refine pm_of (by decide) (Nat.le_of_ble_eq_true rfl) ?_
  intro p e s m below meth c ls hx hb hF hr hlk hN hl
  have hl : lv_has ls 1 [(0, .int t)] := hl
  refine lv_iload_n hx hb d_B_isNameless_0 rfl (lv_at hl 0 rfl) ?_
  refine lv_bipush (v := 17) hx hb d_B_isNameless_1 (by decide) ?_
  refine lv_icmp_eq (tgt := 12) hx hb d_B_isNameless_3 (by decide) (fun c_1 => ?_) (fun c_1 => ?_)
  · skip
    refine lv_iconst (v := 1) hx hb d_B_isNameless_12 (by decide) ?_
    refine lv_goto (tgt := 17) hx hb d_B_isNameless_13 (by decide) ?_
    exact pm_ret hx hb hr hlk (by decide) (by rw [f_B_isNameless, if_pos c_1]) d_B_isNameless_17
  · skip
    refine lv_iload_n hx hb d_B_isNameless_6 rfl (lv_at hl 0 rfl) ?_
    refine lv_bipush (v := 24) hx hb d_B_isNameless_7 (by decide) ?_
    refine lv_icmp_ne (tgt := 16) hx hb d_B_isNameless_9 (by decide) (fun c_2 => ?_) (fun c_2 => ?_)
    · skip
      refine lv_iconst (v := 0) hx hb d_B_isNameless_16 (by decide) ?_
      exact pm_ret hx hb hr hlk (by decide) (by rw [f_B_isNameless, if_neg c_1, if_neg c_2]) d_B_isNameless_17
    · skip
      refine lv_iconst (v := 1) hx hb d_B_isNameless_12 (by decide) ?_
      refine lv_goto (tgt := 17) hx hb d_B_isNameless_13 (by decide) ?_
      exact pm_ret hx hb hr hlk (by decide) (by rw [f_B_isNameless, if_neg c_1, if_pos c_2]) d_B_isNameless_17
def f_B_isInMethod (t : Int32) : Int32 := (if t = 23 then 1 else (if t = 24 then 1 else 0))
set_option maxRecDepth 100000 in
theorem z_B_isInMethod (t : Int32) : f_B_isInMethod t = 0 ∨ f_B_isInMethod t = 1 := by
  unfold f_B_isInMethod
  repeat' first | with_reducible refine z_ite ?_ ?_ | with_reducible exact Or.inl rfl | with_reducible exact Or.inr rfl
set_option maxRecDepth 100000 in
theorem k_B_isInMethod : ck y_B_isInMethod b_B_isInMethod 1 (some .boolean) 1 (.static y_B_isInMethod) := ⟨tk_of (List.mem_of_getElem? (i := 391) rfl) rfl, tk_of (List.mem_of_getElem? (i := 390) (by decide +kernel)) rfl, tk_of (List.mem_of_getElem? (i := 44) (by decide +kernel)) rfl, by decide +kernel⟩
set_option maxHeartbeats 4000000 in
set_option maxRecDepth 100000 in
theorem c_B_isInMethod (l : Launch) (t : Int32) : pmI l y_B_isInMethod b_B_isInMethod 1 .boolean 0 0 [.int t] (fun r => r = f_B_isInMethod t) := by
  refine pm_of (by decide) (Nat.le_of_ble_eq_true rfl) ?_
  intro p e s m below meth c ls hx hb hF hr hlk hN hl
  have hl : lv_has ls 1 [(0, .int t)] := hl
  refine lv_iload_n hx hb d_B_isInMethod_0 rfl (lv_at hl 0 rfl) ?_
  refine lv_bipush (v := 23) hx hb d_B_isInMethod_1 (by decide) ?_
  refine lv_icmp_eq (tgt := 12) hx hb d_B_isInMethod_3 (by decide) (fun c_1 => ?_) (fun c_1 => ?_)
  · skip
    refine lv_iconst (v := 1) hx hb d_B_isInMethod_12 (by decide) ?_
    refine lv_goto (tgt := 17) hx hb d_B_isInMethod_13 (by decide) ?_
    exact pm_ret hx hb hr hlk (by decide) (by rw [f_B_isInMethod, if_pos c_1]) d_B_isInMethod_17
  · skip
    refine lv_iload_n hx hb d_B_isInMethod_6 rfl (lv_at hl 0 rfl) ?_
    refine lv_bipush (v := 24) hx hb d_B_isInMethod_7 (by decide) ?_
    refine lv_icmp_ne (tgt := 16) hx hb d_B_isInMethod_9 (by decide) (fun c_2 => ?_) (fun c_2 => ?_)
    · skip
      refine lv_iconst (v := 0) hx hb d_B_isInMethod_16 (by decide) ?_
      exact pm_ret hx hb hr hlk (by decide) (by rw [f_B_isInMethod, if_neg c_1, if_neg c_2]) d_B_isInMethod_17
    · skip
      refine lv_iconst (v := 1) hx hb d_B_isInMethod_12 (by decide) ?_
      refine lv_goto (tgt := 17) hx hb d_B_isInMethod_13 (by decide) ?_
      exact pm_ret hx hb hr hlk (by decide) (by rw [f_B_isInMethod, if_neg c_1, if_pos c_2]) d_B_isInMethod_17
def f_B_isMember (t : Int32) : Int32 := (if t < 12 then 0 else (if 22 < t then 0 else (if t = 17 then 0 else 1)))
set_option maxRecDepth 100000 in
theorem z_B_isMember (t : Int32) : f_B_isMember t = 0 ∨ f_B_isMember t = 1 := by
  unfold f_B_isMember
  repeat' first | with_reducible refine z_ite ?_ ?_ | with_reducible exact Or.inl rfl | with_reducible exact Or.inr rfl
set_option maxRecDepth 100000 in
theorem k_B_isMember : ck y_B_isMember b_B_isMember 1 (some .boolean) 1 (.static y_B_isMember) := ⟨tk_of (List.mem_of_getElem? (i := 464) rfl) rfl, tk_of (List.mem_of_getElem? (i := 463) (by decide +kernel)) rfl, tk_of (List.mem_of_getElem? (i := 44) (by decide +kernel)) rfl, by decide +kernel⟩
set_option maxHeartbeats 4000000 in
set_option maxRecDepth 100000 in
theorem c_B_isMember (l : Launch) (t : Int32) : pmI l y_B_isMember b_B_isMember 1 .boolean 0 0 [.int t] (fun r => r = f_B_isMember t) := by
  refine pm_of (by decide) (Nat.le_of_ble_eq_true rfl) ?_
  intro p e s m below meth c ls hx hb hF hr hlk hN hl
  have hl : lv_has ls 1 [(0, .int t)] := hl
  refine lv_iload_n hx hb d_B_isMember_0 rfl (lv_at hl 0 rfl) ?_
  refine lv_bipush (v := 12) hx hb d_B_isMember_1 (by decide) ?_
  refine lv_icmp_lt (tgt := 22) hx hb d_B_isMember_3 (by decide) (fun c_1 => ?_) (fun c_1 => ?_)
  · skip
    refine lv_iconst (v := 0) hx hb d_B_isMember_22 (by decide) ?_
    exact pm_ret hx hb hr hlk (by decide) (by rw [f_B_isMember, if_pos c_1]) d_B_isMember_23
  · skip
    refine lv_iload_n hx hb d_B_isMember_6 rfl (lv_at hl 0 rfl) ?_
    refine lv_bipush (v := 22) hx hb d_B_isMember_7 (by decide) ?_
    refine lv_icmp_gt (tgt := 22) hx hb d_B_isMember_9 (by decide) (fun c_2 => ?_) (fun c_2 => ?_)
    · skip
      refine lv_iconst (v := 0) hx hb d_B_isMember_22 (by decide) ?_
      exact pm_ret hx hb hr hlk (by decide) (by rw [f_B_isMember, if_neg c_1, if_pos c_2]) d_B_isMember_23
    · skip
      refine lv_iload_n hx hb d_B_isMember_12 rfl (lv_at hl 0 rfl) ?_
      refine lv_bipush (v := 17) hx hb d_B_isMember_13 (by decide) ?_
      refine lv_icmp_eq (tgt := 22) hx hb d_B_isMember_15 (by decide) (fun c_3 => ?_) (fun c_3 => ?_)
      · skip
        refine lv_iconst (v := 0) hx hb d_B_isMember_22 (by decide) ?_
        exact pm_ret hx hb hr hlk (by decide) (by rw [f_B_isMember, if_neg c_1, if_neg c_2, if_pos c_3]) d_B_isMember_23
      · skip
        refine lv_iconst (v := 1) hx hb d_B_isMember_18 (by decide) ?_
        refine lv_goto (tgt := 23) hx hb d_B_isMember_19 (by decide) ?_
        exact pm_ret hx hb hr hlk (by decide) (by rw [f_B_isMember, if_neg c_1, if_neg c_2, if_neg c_3]) d_B_isMember_23
def f_B_isInNest (t : Int32) : Int32 := (if t < 11 then 0 else (if 25 ≤ t then 0 else 1))
set_option maxRecDepth 100000 in
theorem z_B_isInNest (t : Int32) : f_B_isInNest t = 0 ∨ f_B_isInNest t = 1 := by
  unfold f_B_isInNest
  repeat' first | with_reducible refine z_ite ?_ ?_ | with_reducible exact Or.inl rfl | with_reducible exact Or.inr rfl
set_option maxRecDepth 100000 in
theorem k_B_isInNest : ck y_B_isInNest b_B_isInNest 1 (some .boolean) 1 (.static y_B_isInNest) := ⟨tk_of (List.mem_of_getElem? (i := 485) rfl) rfl, tk_of (List.mem_of_getElem? (i := 484) (by decide +kernel)) rfl, tk_of (List.mem_of_getElem? (i := 44) (by decide +kernel)) rfl, by decide +kernel⟩
set_option maxHeartbeats 4000000 in
set_option maxRecDepth 100000 in
theorem c_B_isInNest (l : Launch) (t : Int32) : pmI l y_B_isInNest b_B_isInNest 1 .boolean 0 0 [.int t] (fun r => r = f_B_isInNest t) := by
  refine pm_of (by decide) (Nat.le_of_ble_eq_true rfl) ?_
  intro p e s m below meth c ls hx hb hF hr hlk hN hl
  have hl : lv_has ls 1 [(0, .int t)] := hl
  refine lv_iload_n hx hb d_B_isInNest_0 rfl (lv_at hl 0 rfl) ?_
  refine lv_bipush (v := 11) hx hb d_B_isInNest_1 (by decide) ?_
  refine lv_icmp_lt (tgt := 16) hx hb d_B_isInNest_3 (by decide) (fun c_1 => ?_) (fun c_1 => ?_)
  · skip
    refine lv_iconst (v := 0) hx hb d_B_isInNest_16 (by decide) ?_
    exact pm_ret hx hb hr hlk (by decide) (by rw [f_B_isInNest, if_pos c_1]) d_B_isInNest_17
  · skip
    refine lv_iload_n hx hb d_B_isInNest_6 rfl (lv_at hl 0 rfl) ?_
    refine lv_bipush (v := 25) hx hb d_B_isInNest_7 (by decide) ?_
    refine lv_icmp_ge (tgt := 16) hx hb d_B_isInNest_9 (by decide) (fun c_2 => ?_) (fun c_2 => ?_)
    · skip
      refine lv_iconst (v := 0) hx hb d_B_isInNest_16 (by decide) ?_
      exact pm_ret hx hb hr hlk (by decide) (by rw [f_B_isInNest, if_neg c_1, if_pos c_2]) d_B_isInNest_17
    · skip
      refine lv_iconst (v := 1) hx hb d_B_isInNest_12 (by decide) ?_
      refine lv_goto (tgt := 17) hx hb d_B_isInNest_13 (by decide) ?_
      exact pm_ret hx hb hr hlk (by decide) (by rw [f_B_isInNest, if_neg c_1, if_neg c_2]) d_B_isInNest_17
def f_B_isType (t : Int32) : Int32 := (if t < 0 then 0 else (if 2 < (f_B_levels t) then 0 else (if (f_B_plain t) < 25 then (if t = 8 then 1 else (if (f_B_plain t) = 8 then 0 else 1)) else 0)))
set_option maxRecDepth 100000 in
theorem z_B_isType (t : Int32) : f_B_isType t = 0 ∨ f_B_isType t = 1 := by
  unfold f_B_isType
  repeat' first | with_reducible refine z_ite ?_ ?_ | with_reducible exact Or.inl rfl | with_reducible exact Or.inr rfl
set_option maxRecDepth 100000 in
theorem k_B_isType : ck y_B_isType b_B_isType 1 (some .boolean) 1 (.static y_B_isType) := ⟨tk_of (List.mem_of_getElem? (i := 135) rfl) rfl, tk_of (List.mem_of_getElem? (i := 134) (by decide +kernel)) rfl, tk_of (List.mem_of_getElem? (i := 44) (by decide +kernel)) rfl, by decide +kernel⟩
theorem j_B_9 : Cond.methodLink R_B 9 y_B_levels ∈ tk := tk_of (List.mem_of_getElem? (i := 136) (by decide +kernel)) rfl
theorem j_B_15 : Cond.methodLink R_B 15 y_B_plain ∈ tk := tk_of (List.mem_of_getElem? (i := 139) (by decide +kernel)) rfl
set_option maxHeartbeats 4000000 in
set_option maxRecDepth 100000 in
theorem c_B_isType (l : Launch) (t : Int32) : pmI l y_B_isType b_B_isType 1 .boolean 1 20 [.int t] (fun r => r = f_B_isType t) := by
  refine pm_of (by decide) (Nat.le_of_ble_eq_true rfl) ?_
  intro p e s m below meth c ls hx hb hF hr hlk hN hl
  have hl : lv_has ls 1 [(0, .int t)] := hl
  refine lv_iload_n hx hb d_B_isType_0 rfl (lv_at hl 0 rfl) ?_
  refine lv_if_lt (tgt := 21) hx hb d_B_isType_1 (by decide) (fun c_1 => ?_) (fun c_1 => ?_)
  · skip
    refine lv_iconst (v := 0) hx hb d_B_isType_21 (by decide) ?_
    exact pm_ret hx hb hr hlk (by decide) (by rw [f_B_isType, if_pos c_1]) d_B_isType_22
  · skip
    refine lv_iload_n hx hb d_B_isType_4 rfl (lv_at hl 0 rfl) ?_
    refine pm_callE hF hN (c_B_levels l t) k_B_levels j_B_9 ⟨Nat.le_of_ble_eq_true rfl, Nat.le_of_ble_eq_true rfl⟩ rfl hl.1 (Nat.le_of_ble_eq_true rfl) d_B_isType_5 ⟨Nat.le_refl _, Nat.le_refl _⟩ ?_
    refine lv_iconst (v := 2) hx hb d_B_isType_8 (by decide) ?_
    refine lv_icmp_gt (tgt := 21) hx hb d_B_isType_9 (by decide) (fun c_3 => ?_) (fun c_3 => ?_)
    · skip
      refine lv_iconst (v := 0) hx hb d_B_isType_21 (by decide) ?_
      exact pm_ret hx hb hr hlk (by decide) (by rw [f_B_isType, if_neg c_1, if_pos c_3]) d_B_isType_22
    · skip
      refine lv_iload_n hx hb d_B_isType_12 rfl (lv_at hl 0 rfl) ?_
      refine pm_callE hF hN (c_B_plain l t) k_B_plain j_B_15 ⟨Nat.le_of_ble_eq_true rfl, Nat.le_of_ble_eq_true rfl⟩ rfl hl.1 (Nat.le_of_ble_eq_true rfl) d_B_isType_13 ⟨Nat.le_refl _, Nat.le_refl _⟩ ?_
      refine lv_bipush (v := 25) hx hb d_B_isType_16 (by decide) ?_
      refine lv_icmp_lt (tgt := 23) hx hb d_B_isType_18 (by decide) (fun c_5 => ?_) (fun c_5 => ?_)
      · skip
        refine lv_iload_n hx hb d_B_isType_23 rfl (lv_at hl 0 rfl) ?_
        refine lv_bipush (v := 8) hx hb d_B_isType_24 (by decide) ?_
        refine lv_icmp_eq (tgt := 38) hx hb d_B_isType_26 (by decide) (fun c_6 => ?_) (fun c_6 => ?_)
        · skip
          refine lv_iconst (v := 1) hx hb d_B_isType_38 (by decide) ?_
          refine lv_goto (tgt := 43) hx hb d_B_isType_39 (by decide) ?_
          exact pm_ret hx hb hr hlk (by decide) (by rw [f_B_isType, if_neg c_1, if_neg c_3, if_pos c_5, if_pos c_6]) d_B_isType_43
        · skip
          refine lv_iload_n hx hb d_B_isType_29 rfl (lv_at hl 0 rfl) ?_
          refine pm_callE hF hN (c_B_plain l t) k_B_plain j_B_15 ⟨Nat.le_of_ble_eq_true rfl, Nat.le_of_ble_eq_true rfl⟩ rfl hl.1 (Nat.le_of_ble_eq_true rfl) d_B_isType_30 ⟨Nat.le_refl _, Nat.le_refl _⟩ ?_
          refine lv_bipush (v := 8) hx hb d_B_isType_33 (by decide) ?_
          refine lv_icmp_eq (tgt := 42) hx hb d_B_isType_35 (by decide) (fun c_8 => ?_) (fun c_8 => ?_)
          · skip
            refine lv_iconst (v := 0) hx hb d_B_isType_42 (by decide) ?_
            exact pm_ret hx hb hr hlk (by decide) (by rw [f_B_isType, if_neg c_1, if_neg c_3, if_pos c_5, if_neg c_6, if_pos c_8]) d_B_isType_43
          · skip
            refine lv_iconst (v := 1) hx hb d_B_isType_38 (by decide) ?_
            refine lv_goto (tgt := 43) hx hb d_B_isType_39 (by decide) ?_
            exact pm_ret hx hb hr hlk (by decide) (by rw [f_B_isType, if_neg c_1, if_neg c_3, if_pos c_5, if_neg c_6, if_neg c_8]) d_B_isType_43
      · skip
        refine lv_iconst (v := 0) hx hb d_B_isType_21 (by decide) ?_
        exact pm_ret hx hb hr hlk (by decide) (by rw [f_B_isType, if_neg c_1, if_neg c_3, if_neg c_5]) d_B_isType_22
def f_B_plainModifiers (t : Int32) : Int32 := (if t = 9 then 1 else (if t = 10 then 1537 else (if t = 11 then 17 else (if t = 12 then 1544 else (if t = 13 then 1544 else (if t = 14 then 24 else (if t = 15 then 24 else (if t = 16 then 16392 else (if t = 17 then 16400 else (if t = 18 then 2 else (if t = 19 then 4 else (if t = 20 then 9736 else (if t = 21 then 1032 else (if t = 22 then 8 else (if t = 23 then 0 else (if t = 24 then 0 else 1041))))))))))))))))
set_option maxRecDepth 100000 in
theorem k_B_plainModifiers : ck y_B_plainModifiers b_B_plainModifiers 1 (some .int) 1 (.static y_B_plainModifiers) := ⟨tk_of (List.mem_of_getElem? (i := 408) rfl) rfl, tk_of (List.mem_of_getElem? (i := 407) (by decide +kernel)) rfl, tk_of (List.mem_of_getElem? (i := 44) (by decide +kernel)) rfl, by decide +kernel⟩
set_option maxHeartbeats 4000000 in
set_option maxRecDepth 100000 in
theorem c_B_plainModifiers (l : Launch) (t : Int32) : pmI l y_B_plainModifiers b_B_plainModifiers 1 .int 0 0 [.int t] (fun r => r = f_B_plainModifiers t) := by
  refine pm_of (by decide) (Nat.le_of_ble_eq_true rfl) ?_
  intro p e s m below meth c ls hx hb hF hr hlk hN hl
  have hl : lv_has ls 1 [(0, .int t)] := hl
  refine lv_iload_n hx hb d_B_plainModifiers_0 rfl (lv_at hl 0 rfl) ?_
  by_cases c_1 : t = 9
  · refine lv_tableIn (tgt := 80) (off := 79) hx hb d_B_plainModifiers_1 (by rw [c_1]; decide) (by rw [c_1]; decide) (by rw [c_1]; decide) (by decide) ?_
    refine lv_iconst (v := 1) hx hb d_B_plainModifiers_80 (by decide) ?_
    exact pm_ret hx hb hr hlk (nar_i _) (by rw [f_B_plainModifiers, if_pos c_1]) d_B_plainModifiers_81
  by_cases c_2 : t = 10
  · refine lv_tableIn (tgt := 82) (off := 81) hx hb d_B_plainModifiers_1 (by rw [c_2]; decide) (by rw [c_2]; decide) (by rw [c_2]; decide) (by decide) ?_
    refine lv_sipush (v := 1537) hx hb d_B_plainModifiers_82 (by decide) ?_
    exact pm_ret hx hb hr hlk (nar_i _) (by rw [f_B_plainModifiers, if_neg c_1, if_pos c_2]) d_B_plainModifiers_85
  by_cases c_3 : t = 11
  · refine lv_tableIn (tgt := 86) (off := 85) hx hb d_B_plainModifiers_1 (by rw [c_3]; decide) (by rw [c_3]; decide) (by rw [c_3]; decide) (by decide) ?_
    refine lv_bipush (v := 17) hx hb d_B_plainModifiers_86 (by decide) ?_
    exact pm_ret hx hb hr hlk (nar_i _) (by rw [f_B_plainModifiers, if_neg c_1, if_neg c_2, if_pos c_3]) d_B_plainModifiers_88
  by_cases c_4 : t = 12
  · refine lv_tableIn (tgt := 89) (off := 88) hx hb d_B_plainModifiers_1 (by rw [c_4]; decide) (by rw [c_4]; decide) (by rw [c_4]; decide) (by decide) ?_
    refine lv_sipush (v := 1544) hx hb d_B_plainModifiers_89 (by decide) ?_
    exact pm_ret hx hb hr hlk (nar_i _) (by rw [f_B_plainModifiers, if_neg c_1, if_neg c_2, if_neg c_3, if_pos c_4]) d_B_plainModifiers_92
  by_cases c_5 : t = 13
  · refine lv_tableIn (tgt := 89) (off := 88) hx hb d_B_plainModifiers_1 (by rw [c_5]; decide) (by rw [c_5]; decide) (by rw [c_5]; decide) (by decide) ?_
    refine lv_sipush (v := 1544) hx hb d_B_plainModifiers_89 (by decide) ?_
    exact pm_ret hx hb hr hlk (nar_i _) (by rw [f_B_plainModifiers, if_neg c_1, if_neg c_2, if_neg c_3, if_neg c_4, if_pos c_5]) d_B_plainModifiers_92
  by_cases c_6 : t = 14
  · refine lv_tableIn (tgt := 93) (off := 92) hx hb d_B_plainModifiers_1 (by rw [c_6]; decide) (by rw [c_6]; decide) (by rw [c_6]; decide) (by decide) ?_
    refine lv_bipush (v := 24) hx hb d_B_plainModifiers_93 (by decide) ?_
    exact pm_ret hx hb hr hlk (nar_i _) (by rw [f_B_plainModifiers, if_neg c_1, if_neg c_2, if_neg c_3, if_neg c_4, if_neg c_5, if_pos c_6]) d_B_plainModifiers_95
  by_cases c_7 : t = 15
  · refine lv_tableIn (tgt := 93) (off := 92) hx hb d_B_plainModifiers_1 (by rw [c_7]; decide) (by rw [c_7]; decide) (by rw [c_7]; decide) (by decide) ?_
    refine lv_bipush (v := 24) hx hb d_B_plainModifiers_93 (by decide) ?_
    exact pm_ret hx hb hr hlk (nar_i _) (by rw [f_B_plainModifiers, if_neg c_1, if_neg c_2, if_neg c_3, if_neg c_4, if_neg c_5, if_neg c_6, if_pos c_7]) d_B_plainModifiers_95
  by_cases c_8 : t = 16
  · refine lv_tableIn (tgt := 96) (off := 95) hx hb d_B_plainModifiers_1 (by rw [c_8]; decide) (by rw [c_8]; decide) (by rw [c_8]; decide) (by decide) ?_
    refine lv_sipush (v := 16392) hx hb d_B_plainModifiers_96 (by decide) ?_
    exact pm_ret hx hb hr hlk (nar_i _) (by rw [f_B_plainModifiers, if_neg c_1, if_neg c_2, if_neg c_3, if_neg c_4, if_neg c_5, if_neg c_6, if_neg c_7, if_pos c_8]) d_B_plainModifiers_99
  by_cases c_9 : t = 17
  · refine lv_tableIn (tgt := 100) (off := 99) hx hb d_B_plainModifiers_1 (by rw [c_9]; decide) (by rw [c_9]; decide) (by rw [c_9]; decide) (by decide) ?_
    refine lv_sipush (v := 16400) hx hb d_B_plainModifiers_100 (by decide) ?_
    exact pm_ret hx hb hr hlk (nar_i _) (by rw [f_B_plainModifiers, if_neg c_1, if_neg c_2, if_neg c_3, if_neg c_4, if_neg c_5, if_neg c_6, if_neg c_7, if_neg c_8, if_pos c_9]) d_B_plainModifiers_103
  by_cases c_10 : t = 18
  · refine lv_tableIn (tgt := 104) (off := 103) hx hb d_B_plainModifiers_1 (by rw [c_10]; decide) (by rw [c_10]; decide) (by rw [c_10]; decide) (by decide) ?_
    refine lv_iconst (v := 2) hx hb d_B_plainModifiers_104 (by decide) ?_
    exact pm_ret hx hb hr hlk (nar_i _) (by rw [f_B_plainModifiers, if_neg c_1, if_neg c_2, if_neg c_3, if_neg c_4, if_neg c_5, if_neg c_6, if_neg c_7, if_neg c_8, if_neg c_9, if_pos c_10]) d_B_plainModifiers_105
  by_cases c_11 : t = 19
  · refine lv_tableIn (tgt := 106) (off := 105) hx hb d_B_plainModifiers_1 (by rw [c_11]; decide) (by rw [c_11]; decide) (by rw [c_11]; decide) (by decide) ?_
    refine lv_iconst (v := 4) hx hb d_B_plainModifiers_106 (by decide) ?_
    exact pm_ret hx hb hr hlk (nar_i _) (by rw [f_B_plainModifiers, if_neg c_1, if_neg c_2, if_neg c_3, if_neg c_4, if_neg c_5, if_neg c_6, if_neg c_7, if_neg c_8, if_neg c_9, if_neg c_10, if_pos c_11]) d_B_plainModifiers_107
  by_cases c_12 : t = 20
  · refine lv_tableIn (tgt := 108) (off := 107) hx hb d_B_plainModifiers_1 (by rw [c_12]; decide) (by rw [c_12]; decide) (by rw [c_12]; decide) (by decide) ?_
    refine lv_sipush (v := 9736) hx hb d_B_plainModifiers_108 (by decide) ?_
    exact pm_ret hx hb hr hlk (nar_i _) (by rw [f_B_plainModifiers, if_neg c_1, if_neg c_2, if_neg c_3, if_neg c_4, if_neg c_5, if_neg c_6, if_neg c_7, if_neg c_8, if_neg c_9, if_neg c_10, if_neg c_11, if_pos c_12]) d_B_plainModifiers_111
  by_cases c_13 : t = 21
  · refine lv_tableIn (tgt := 112) (off := 111) hx hb d_B_plainModifiers_1 (by rw [c_13]; decide) (by rw [c_13]; decide) (by rw [c_13]; decide) (by decide) ?_
    refine lv_sipush (v := 1032) hx hb d_B_plainModifiers_112 (by decide) ?_
    exact pm_ret hx hb hr hlk (nar_i _) (by rw [f_B_plainModifiers, if_neg c_1, if_neg c_2, if_neg c_3, if_neg c_4, if_neg c_5, if_neg c_6, if_neg c_7, if_neg c_8, if_neg c_9, if_neg c_10, if_neg c_11, if_neg c_12, if_pos c_13]) d_B_plainModifiers_115
  by_cases c_14 : t = 22
  · refine lv_tableIn (tgt := 116) (off := 115) hx hb d_B_plainModifiers_1 (by rw [c_14]; decide) (by rw [c_14]; decide) (by rw [c_14]; decide) (by decide) ?_
    refine lv_bipush (v := 8) hx hb d_B_plainModifiers_116 (by decide) ?_
    exact pm_ret hx hb hr hlk (nar_i _) (by rw [f_B_plainModifiers, if_neg c_1, if_neg c_2, if_neg c_3, if_neg c_4, if_neg c_5, if_neg c_6, if_neg c_7, if_neg c_8, if_neg c_9, if_neg c_10, if_neg c_11, if_neg c_12, if_neg c_13, if_pos c_14]) d_B_plainModifiers_118
  by_cases c_15 : t = 23
  · refine lv_tableIn (tgt := 119) (off := 118) hx hb d_B_plainModifiers_1 (by rw [c_15]; decide) (by rw [c_15]; decide) (by rw [c_15]; decide) (by decide) ?_
    refine lv_iconst (v := 0) hx hb d_B_plainModifiers_119 (by decide) ?_
    exact pm_ret hx hb hr hlk (nar_i _) (by rw [f_B_plainModifiers, if_neg c_1, if_neg c_2, if_neg c_3, if_neg c_4, if_neg c_5, if_neg c_6, if_neg c_7, if_neg c_8, if_neg c_9, if_neg c_10, if_neg c_11, if_neg c_12, if_neg c_13, if_neg c_14, if_pos c_15]) d_B_plainModifiers_120
  by_cases c_16 : t = 24
  · refine lv_tableIn (tgt := 119) (off := 118) hx hb d_B_plainModifiers_1 (by rw [c_16]; decide) (by rw [c_16]; decide) (by rw [c_16]; decide) (by decide) ?_
    refine lv_iconst (v := 0) hx hb d_B_plainModifiers_119 (by decide) ?_
    exact pm_ret hx hb hr hlk (nar_i _) (by rw [f_B_plainModifiers, if_neg c_1, if_neg c_2, if_neg c_3, if_neg c_4, if_neg c_5, if_neg c_6, if_neg c_7, if_neg c_8, if_neg c_9, if_neg c_10, if_neg c_11, if_neg c_12, if_neg c_13, if_neg c_14, if_neg c_15, if_pos c_16]) d_B_plainModifiers_120
  refine lv_tableOut (tgt := 121) hx hb d_B_plainModifiers_1 (by have := lv_neT (a := 9) c_1 (by decide); have := lv_neT (a := 10) c_2 (by decide); have := lv_neT (a := 11) c_3 (by decide); have := lv_neT (a := 12) c_4 (by decide); have := lv_neT (a := 13) c_5 (by decide); have := lv_neT (a := 14) c_6 (by decide); have := lv_neT (a := 15) c_7 (by decide); have := lv_neT (a := 16) c_8 (by decide); have := lv_neT (a := 17) c_9 (by decide); have := lv_neT (a := 18) c_10 (by decide); have := lv_neT (a := 19) c_11 (by decide); have := lv_neT (a := 20) c_12 (by decide); have := lv_neT (a := 21) c_13 (by decide); have := lv_neT (a := 22) c_14 (by decide); have := lv_neT (a := 23) c_15 (by decide); have := lv_neT (a := 24) c_16 (by decide); omega) (by decide) ?_
  refine lv_sipush (v := 1041) hx hb d_B_plainModifiers_121 (by decide) ?_
  exact pm_ret hx hb hr hlk (nar_i _) (by rw [f_B_plainModifiers, if_neg c_1, if_neg c_2, if_neg c_3, if_neg c_4, if_neg c_5, if_neg c_6, if_neg c_7, if_neg c_8, if_neg c_9, if_neg c_10, if_neg c_11, if_neg c_12, if_neg c_13, if_neg c_14, if_neg c_15, if_neg c_16]) d_B_plainModifiers_124
def f_B_modifiers (t : Int32) : Int32 := (if (f_B_isArray t) = 0 then (f_B_plainModifiers (f_B_plain t)) else (1040 + ((f_B_plainModifiers (f_B_plain t)) &&& 7)))
set_option maxRecDepth 100000 in
theorem k_B_modifiers : ck y_B_modifiers b_B_modifiers 2 (some .int) 1 (.static y_B_modifiers) := ⟨tk_of (List.mem_of_getElem? (i := 405) rfl) rfl, tk_of (List.mem_of_getElem? (i := 404) (by decide +kernel)) rfl, tk_of (List.mem_of_getElem? (i := 44) (by decide +kernel)) rfl, by decide +kernel⟩
theorem j_B_69 : Cond.methodLink R_B 69 y_B_plainModifiers ∈ tk := tk_of (List.mem_of_getElem? (i := 406) (by decide +kernel)) rfl
theorem j_B_72 : Cond.methodLink R_B 72 y_B_isArray ∈ tk := tk_of (List.mem_of_getElem? (i := 409) (by decide +kernel)) rfl
set_option maxHeartbeats 4000000 in
set_option maxRecDepth 100000 in
theorem c_B_modifiers (l : Launch) (t : Int32) : pmI l y_B_modifiers b_B_modifiers 2 .int 1 20 [.int t] (fun r => r = f_B_modifiers t) := by
  refine pm_of (by decide) (Nat.le_of_ble_eq_true rfl) ?_
  intro p e s m below meth c ls hx hb hF hr hlk hN hl
  have hl : lv_has ls 2 [(0, .int t)] := hl
  refine lv_iload_n hx hb d_B_modifiers_0 rfl (lv_at hl 0 rfl) ?_
  refine pm_callE hF hN (c_B_plain l t) k_B_plain j_B_15 ⟨Nat.le_of_ble_eq_true rfl, Nat.le_of_ble_eq_true rfl⟩ rfl hl.1 (Nat.le_of_ble_eq_true rfl) d_B_modifiers_1 ⟨Nat.le_refl _, Nat.le_refl _⟩ ?_
  refine pm_callE hF hN (c_B_plainModifiers l (f_B_plain t)) k_B_plainModifiers j_B_69 ⟨Nat.le_of_ble_eq_true rfl, Nat.le_of_ble_eq_true rfl⟩ rfl hl.1 (Nat.le_of_ble_eq_true rfl) d_B_modifiers_4 ⟨Nat.le_refl _, Nat.le_refl _⟩ ?_
  refine lv_istore_n (lv' := [(1, .int (f_B_plainModifiers (f_B_plain t))), (0, .int t)]) hx hb d_B_modifiers_7 rfl hl (by decide) rfl (fun ls hl => ?_)
  refine lv_iload_n hx hb d_B_modifiers_8 rfl (lv_at hl 1 rfl) ?_
  refine pm_callE hF hN (c_B_isArray l t) k_B_isArray j_B_72 ⟨Nat.le_of_ble_eq_true rfl, Nat.le_of_ble_eq_true rfl⟩ rfl hl.1 (Nat.le_of_ble_eq_true rfl) d_B_modifiers_9 ⟨Nat.le_refl _, Nat.le_refl _⟩ ?_
  refine lv_if_eq (tgt := 26) hx hb d_B_modifiers_12 (by decide) (fun c_4 => ?_) (fun c_4 => ?_)
  · skip
    refine lv_iload_n hx hb d_B_modifiers_26 rfl (lv_at hl 0 rfl) ?_
    exact pm_ret hx hb hr hlk (nar_i _) (by rw [f_B_modifiers, if_pos c_4]) d_B_modifiers_27
  · skip
    refine lv_sipush (v := 1040) hx hb d_B_modifiers_15 (by decide) ?_
    refine lv_iload_n hx hb d_B_modifiers_18 rfl (lv_at hl 0 rfl) ?_
    refine lv_bipush (v := 7) hx hb d_B_modifiers_19 (by decide) ?_
    refine lv_iand hx hb d_B_modifiers_21 ?_
    refine lv_iadd hx hb d_B_modifiers_22 ?_
    refine lv_goto (tgt := 27) hx hb d_B_modifiers_23 (by decide) ?_
    exact pm_ret hx hb hr hlk (nar_i _) (by rw [f_B_modifiers, if_neg c_4]) d_B_modifiers_27
def f_B_classUp (t : Int32) : Int32 := (if t = 14 then (-3) else (if t = 15 then (if t ≤ 9 then (-2) else (if (f_B_isInterface t) = 0 then 9 else (-2))) else (if t = 16 then (-3) else (if t = 17 then 16 else (if t = 18 then (if t ≤ 9 then (-2) else (if (f_B_isInterface t) = 0 then 9 else (-2))) else (if t = 19 then (if t ≤ 9 then (-2) else (if (f_B_isInterface t) = 0 then 9 else (-2))) else (if t = 20 then (if t ≤ 9 then (-2) else (if (f_B_isInterface t) = 0 then 9 else (-2))) else (if t = 21 then (if t ≤ 9 then (-2) else (if (f_B_isInterface t) = 0 then 9 else (-2))) else (if t = 22 then 21 else (if t = 23 then 22 else (if t ≤ 9 then (-2) else (if (f_B_isInterface t) = 0 then 9 else (-2)))))))))))))
set_option maxRecDepth 100000 in
theorem k_B_classUp : ck y_B_classUp b_B_classUp 1 (some .int) 1 (.static y_B_classUp) := ⟨tk_of (List.mem_of_getElem? (i := 492) rfl) rfl, tk_of (List.mem_of_getElem? (i := 491) (by decide +kernel)) rfl, tk_of (List.mem_of_getElem? (i := 44) (by decide +kernel)) rfl, by decide +kernel⟩
theorem j_B_76 : Cond.methodLink R_B 76 y_B_isInterface ∈ tk := tk_of (List.mem_of_getElem? (i := 493) (by decide +kernel)) rfl
set_option maxHeartbeats 4000000 in
set_option maxRecDepth 100000 in
theorem c_B_classUp (l : Launch) (t : Int32) : pmI l y_B_classUp b_B_classUp 1 .int 1 20 [.int t] (fun r => r = f_B_classUp t) := by
  refine pm_of (by decide) (Nat.le_of_ble_eq_true rfl) ?_
  intro p e s m below meth c ls hx hb hF hr hlk hN hl
  have hl : lv_has ls 1 [(0, .int t)] := hl
  refine lv_iload_n hx hb d_B_classUp_0 rfl (lv_at hl 0 rfl) ?_
  by_cases c_1 : t = 14
  · refine lv_tableIn (tgt := 56) (off := 55) hx hb d_B_classUp_1 (by rw [c_1]; decide) (by rw [c_1]; decide) (by rw [c_1]; decide) (by decide) ?_
    refine lv_bipush (v := (-3)) hx hb d_B_classUp_56 (by decide) ?_
    exact pm_ret hx hb hr hlk (nar_i _) (by rw [f_B_classUp, if_pos c_1]) d_B_classUp_58
  by_cases c_2 : t = 15
  · refine lv_tableIn (tgt := 68) (off := 67) hx hb d_B_classUp_1 (by rw [c_2]; decide) (by rw [c_2]; decide) (by rw [c_2]; decide) (by decide) ?_
    refine lv_iload_n hx hb d_B_classUp_68 rfl (lv_at hl 0 rfl) ?_
    refine lv_bipush (v := 9) hx hb d_B_classUp_69 (by decide) ?_
    refine lv_icmp_le (tgt := 81) hx hb d_B_classUp_71 (by decide) (fun c_3 => ?_) (fun c_3 => ?_)
    · skip
      refine lv_bipush (v := (-2)) hx hb d_B_classUp_81 (by decide) ?_
      refine lv_goto (tgt := 88) hx hb d_B_classUp_83 (by decide) ?_
      exact pm_ret hx hb hr hlk (nar_i _) (by rw [f_B_classUp, if_neg c_1, if_pos c_2, if_pos c_3]) d_B_classUp_88
    · skip
      refine lv_iload_n hx hb d_B_classUp_74 rfl (lv_at hl 0 rfl) ?_
      refine pm_callE hF hN (c_B_isInterface l t) k_B_isInterface j_B_76 ⟨Nat.le_of_ble_eq_true rfl, Nat.le_of_ble_eq_true rfl⟩ rfl hl.1 (Nat.le_of_ble_eq_true rfl) d_B_classUp_75 ⟨Nat.le_refl _, Nat.le_refl _⟩ ?_
      refine lv_if_eq (tgt := 86) hx hb d_B_classUp_78 (by decide) (fun c_5 => ?_) (fun c_5 => ?_)
      · skip
        refine lv_bipush (v := 9) hx hb d_B_classUp_86 (by decide) ?_
        exact pm_ret hx hb hr hlk (nar_i _) (by rw [f_B_classUp, if_neg c_1, if_pos c_2, if_neg c_3, if_pos c_5]) d_B_classUp_88
      · skip
        refine lv_bipush (v := (-2)) hx hb d_B_classUp_81 (by decide) ?_
        refine lv_goto (tgt := 88) hx hb d_B_classUp_83 (by decide) ?_
        exact pm_ret hx hb hr hlk (nar_i _) (by rw [f_B_classUp, if_neg c_1, if_pos c_2, if_neg c_3, if_neg c_5]) d_B_classUp_88
  by_cases c_6 : t = 16
  · refine lv_tableIn (tgt := 56) (off := 55) hx hb d_B_classUp_1 (by rw [c_6]; decide) (by rw [c_6]; decide) (by rw [c_6]; decide) (by decide) ?_
    refine lv_bipush (v := (-3)) hx hb d_B_classUp_56 (by decide) ?_
    exact pm_ret hx hb hr hlk (nar_i _) (by rw [f_B_classUp, if_neg c_1, if_neg c_2, if_pos c_6]) d_B_classUp_58
  by_cases c_7 : t = 17
  · refine lv_tableIn (tgt := 59) (off := 58) hx hb d_B_classUp_1 (by rw [c_7]; decide) (by rw [c_7]; decide) (by rw [c_7]; decide) (by decide) ?_
    refine lv_bipush (v := 16) hx hb d_B_classUp_59 (by decide) ?_
    exact pm_ret hx hb hr hlk (nar_i _) (by rw [f_B_classUp, if_neg c_1, if_neg c_2, if_neg c_6, if_pos c_7]) d_B_classUp_61
  by_cases c_8 : t = 18
  · refine lv_tableIn (tgt := 68) (off := 67) hx hb d_B_classUp_1 (by rw [c_8]; decide) (by rw [c_8]; decide) (by rw [c_8]; decide) (by decide) ?_
    refine lv_iload_n hx hb d_B_classUp_68 rfl (lv_at hl 0 rfl) ?_
    refine lv_bipush (v := 9) hx hb d_B_classUp_69 (by decide) ?_
    refine lv_icmp_le (tgt := 81) hx hb d_B_classUp_71 (by decide) (fun c_9 => ?_) (fun c_9 => ?_)
    · skip
      refine lv_bipush (v := (-2)) hx hb d_B_classUp_81 (by decide) ?_
      refine lv_goto (tgt := 88) hx hb d_B_classUp_83 (by decide) ?_
      exact pm_ret hx hb hr hlk (nar_i _) (by rw [f_B_classUp, if_neg c_1, if_neg c_2, if_neg c_6, if_neg c_7, if_pos c_8, if_pos c_9]) d_B_classUp_88
    · skip
      refine lv_iload_n hx hb d_B_classUp_74 rfl (lv_at hl 0 rfl) ?_
      refine pm_callE hF hN (c_B_isInterface l t) k_B_isInterface j_B_76 ⟨Nat.le_of_ble_eq_true rfl, Nat.le_of_ble_eq_true rfl⟩ rfl hl.1 (Nat.le_of_ble_eq_true rfl) d_B_classUp_75 ⟨Nat.le_refl _, Nat.le_refl _⟩ ?_
      refine lv_if_eq (tgt := 86) hx hb d_B_classUp_78 (by decide) (fun c_11 => ?_) (fun c_11 => ?_)
      · skip
        refine lv_bipush (v := 9) hx hb d_B_classUp_86 (by decide) ?_
        exact pm_ret hx hb hr hlk (nar_i _) (by rw [f_B_classUp, if_neg c_1, if_neg c_2, if_neg c_6, if_neg c_7, if_pos c_8, if_neg c_9, if_pos c_11]) d_B_classUp_88
      · skip
        refine lv_bipush (v := (-2)) hx hb d_B_classUp_81 (by decide) ?_
        refine lv_goto (tgt := 88) hx hb d_B_classUp_83 (by decide) ?_
        exact pm_ret hx hb hr hlk (nar_i _) (by rw [f_B_classUp, if_neg c_1, if_neg c_2, if_neg c_6, if_neg c_7, if_pos c_8, if_neg c_9, if_neg c_11]) d_B_classUp_88
  by_cases c_12 : t = 19
  · refine lv_tableIn (tgt := 68) (off := 67) hx hb d_B_classUp_1 (by rw [c_12]; decide) (by rw [c_12]; decide) (by rw [c_12]; decide) (by decide) ?_
    refine lv_iload_n hx hb d_B_classUp_68 rfl (lv_at hl 0 rfl) ?_
    refine lv_bipush (v := 9) hx hb d_B_classUp_69 (by decide) ?_
    refine lv_icmp_le (tgt := 81) hx hb d_B_classUp_71 (by decide) (fun c_13 => ?_) (fun c_13 => ?_)
    · skip
      refine lv_bipush (v := (-2)) hx hb d_B_classUp_81 (by decide) ?_
      refine lv_goto (tgt := 88) hx hb d_B_classUp_83 (by decide) ?_
      exact pm_ret hx hb hr hlk (nar_i _) (by rw [f_B_classUp, if_neg c_1, if_neg c_2, if_neg c_6, if_neg c_7, if_neg c_8, if_pos c_12, if_pos c_13]) d_B_classUp_88
    · skip
      refine lv_iload_n hx hb d_B_classUp_74 rfl (lv_at hl 0 rfl) ?_
      refine pm_callE hF hN (c_B_isInterface l t) k_B_isInterface j_B_76 ⟨Nat.le_of_ble_eq_true rfl, Nat.le_of_ble_eq_true rfl⟩ rfl hl.1 (Nat.le_of_ble_eq_true rfl) d_B_classUp_75 ⟨Nat.le_refl _, Nat.le_refl _⟩ ?_
      refine lv_if_eq (tgt := 86) hx hb d_B_classUp_78 (by decide) (fun c_15 => ?_) (fun c_15 => ?_)
      · skip
        refine lv_bipush (v := 9) hx hb d_B_classUp_86 (by decide) ?_
        exact pm_ret hx hb hr hlk (nar_i _) (by rw [f_B_classUp, if_neg c_1, if_neg c_2, if_neg c_6, if_neg c_7, if_neg c_8, if_pos c_12, if_neg c_13, if_pos c_15]) d_B_classUp_88
      · skip
        refine lv_bipush (v := (-2)) hx hb d_B_classUp_81 (by decide) ?_
        refine lv_goto (tgt := 88) hx hb d_B_classUp_83 (by decide) ?_
        exact pm_ret hx hb hr hlk (nar_i _) (by rw [f_B_classUp, if_neg c_1, if_neg c_2, if_neg c_6, if_neg c_7, if_neg c_8, if_pos c_12, if_neg c_13, if_neg c_15]) d_B_classUp_88
  by_cases c_16 : t = 20
  · refine lv_tableIn (tgt := 68) (off := 67) hx hb d_B_classUp_1 (by rw [c_16]; decide) (by rw [c_16]; decide) (by rw [c_16]; decide) (by decide) ?_
    refine lv_iload_n hx hb d_B_classUp_68 rfl (lv_at hl 0 rfl) ?_
    refine lv_bipush (v := 9) hx hb d_B_classUp_69 (by decide) ?_
    refine lv_icmp_le (tgt := 81) hx hb d_B_classUp_71 (by decide) (fun c_17 => ?_) (fun c_17 => ?_)
    · skip
      refine lv_bipush (v := (-2)) hx hb d_B_classUp_81 (by decide) ?_
      refine lv_goto (tgt := 88) hx hb d_B_classUp_83 (by decide) ?_
      exact pm_ret hx hb hr hlk (nar_i _) (by rw [f_B_classUp, if_neg c_1, if_neg c_2, if_neg c_6, if_neg c_7, if_neg c_8, if_neg c_12, if_pos c_16, if_pos c_17]) d_B_classUp_88
    · skip
      refine lv_iload_n hx hb d_B_classUp_74 rfl (lv_at hl 0 rfl) ?_
      refine pm_callE hF hN (c_B_isInterface l t) k_B_isInterface j_B_76 ⟨Nat.le_of_ble_eq_true rfl, Nat.le_of_ble_eq_true rfl⟩ rfl hl.1 (Nat.le_of_ble_eq_true rfl) d_B_classUp_75 ⟨Nat.le_refl _, Nat.le_refl _⟩ ?_
      refine lv_if_eq (tgt := 86) hx hb d_B_classUp_78 (by decide) (fun c_19 => ?_) (fun c_19 => ?_)
      · skip
        refine lv_bipush (v := 9) hx hb d_B_classUp_86 (by decide) ?_
        exact pm_ret hx hb hr hlk (nar_i _) (by rw [f_B_classUp, if_neg c_1, if_neg c_2, if_neg c_6, if_neg c_7, if_neg c_8, if_neg c_12, if_pos c_16, if_neg c_17, if_pos c_19]) d_B_classUp_88
      · skip
        refine lv_bipush (v := (-2)) hx hb d_B_classUp_81 (by decide) ?_
        refine lv_goto (tgt := 88) hx hb d_B_classUp_83 (by decide) ?_
        exact pm_ret hx hb hr hlk (nar_i _) (by rw [f_B_classUp, if_neg c_1, if_neg c_2, if_neg c_6, if_neg c_7, if_neg c_8, if_neg c_12, if_pos c_16, if_neg c_17, if_neg c_19]) d_B_classUp_88
  by_cases c_20 : t = 21
  · refine lv_tableIn (tgt := 68) (off := 67) hx hb d_B_classUp_1 (by rw [c_20]; decide) (by rw [c_20]; decide) (by rw [c_20]; decide) (by decide) ?_
    refine lv_iload_n hx hb d_B_classUp_68 rfl (lv_at hl 0 rfl) ?_
    refine lv_bipush (v := 9) hx hb d_B_classUp_69 (by decide) ?_
    refine lv_icmp_le (tgt := 81) hx hb d_B_classUp_71 (by decide) (fun c_21 => ?_) (fun c_21 => ?_)
    · skip
      refine lv_bipush (v := (-2)) hx hb d_B_classUp_81 (by decide) ?_
      refine lv_goto (tgt := 88) hx hb d_B_classUp_83 (by decide) ?_
      exact pm_ret hx hb hr hlk (nar_i _) (by rw [f_B_classUp, if_neg c_1, if_neg c_2, if_neg c_6, if_neg c_7, if_neg c_8, if_neg c_12, if_neg c_16, if_pos c_20, if_pos c_21]) d_B_classUp_88
    · skip
      refine lv_iload_n hx hb d_B_classUp_74 rfl (lv_at hl 0 rfl) ?_
      refine pm_callE hF hN (c_B_isInterface l t) k_B_isInterface j_B_76 ⟨Nat.le_of_ble_eq_true rfl, Nat.le_of_ble_eq_true rfl⟩ rfl hl.1 (Nat.le_of_ble_eq_true rfl) d_B_classUp_75 ⟨Nat.le_refl _, Nat.le_refl _⟩ ?_
      refine lv_if_eq (tgt := 86) hx hb d_B_classUp_78 (by decide) (fun c_23 => ?_) (fun c_23 => ?_)
      · skip
        refine lv_bipush (v := 9) hx hb d_B_classUp_86 (by decide) ?_
        exact pm_ret hx hb hr hlk (nar_i _) (by rw [f_B_classUp, if_neg c_1, if_neg c_2, if_neg c_6, if_neg c_7, if_neg c_8, if_neg c_12, if_neg c_16, if_pos c_20, if_neg c_21, if_pos c_23]) d_B_classUp_88
      · skip
        refine lv_bipush (v := (-2)) hx hb d_B_classUp_81 (by decide) ?_
        refine lv_goto (tgt := 88) hx hb d_B_classUp_83 (by decide) ?_
        exact pm_ret hx hb hr hlk (nar_i _) (by rw [f_B_classUp, if_neg c_1, if_neg c_2, if_neg c_6, if_neg c_7, if_neg c_8, if_neg c_12, if_neg c_16, if_pos c_20, if_neg c_21, if_neg c_23]) d_B_classUp_88
  by_cases c_24 : t = 22
  · refine lv_tableIn (tgt := 62) (off := 61) hx hb d_B_classUp_1 (by rw [c_24]; decide) (by rw [c_24]; decide) (by rw [c_24]; decide) (by decide) ?_
    refine lv_bipush (v := 21) hx hb d_B_classUp_62 (by decide) ?_
    exact pm_ret hx hb hr hlk (nar_i _) (by rw [f_B_classUp, if_neg c_1, if_neg c_2, if_neg c_6, if_neg c_7, if_neg c_8, if_neg c_12, if_neg c_16, if_neg c_20, if_pos c_24]) d_B_classUp_64
  by_cases c_25 : t = 23
  · refine lv_tableIn (tgt := 65) (off := 64) hx hb d_B_classUp_1 (by rw [c_25]; decide) (by rw [c_25]; decide) (by rw [c_25]; decide) (by decide) ?_
    refine lv_bipush (v := 22) hx hb d_B_classUp_65 (by decide) ?_
    exact pm_ret hx hb hr hlk (nar_i _) (by rw [f_B_classUp, if_neg c_1, if_neg c_2, if_neg c_6, if_neg c_7, if_neg c_8, if_neg c_12, if_neg c_16, if_neg c_20, if_neg c_24, if_pos c_25]) d_B_classUp_67
  refine lv_tableOut (tgt := 68) hx hb d_B_classUp_1 (by have := lv_neT (a := 14) c_1 (by decide); have := lv_neT (a := 15) c_2 (by decide); have := lv_neT (a := 16) c_6 (by decide); have := lv_neT (a := 17) c_7 (by decide); have := lv_neT (a := 18) c_8 (by decide); have := lv_neT (a := 19) c_12 (by decide); have := lv_neT (a := 20) c_16 (by decide); have := lv_neT (a := 21) c_20 (by decide); have := lv_neT (a := 22) c_24 (by decide); have := lv_neT (a := 23) c_25 (by decide); omega) (by decide) ?_
  refine lv_iload_n hx hb d_B_classUp_68 rfl (lv_at hl 0 rfl) ?_
  refine lv_bipush (v := 9) hx hb d_B_classUp_69 (by decide) ?_
  refine lv_icmp_le (tgt := 81) hx hb d_B_classUp_71 (by decide) (fun c_26 => ?_) (fun c_26 => ?_)
  · skip
    refine lv_bipush (v := (-2)) hx hb d_B_classUp_81 (by decide) ?_
    refine lv_goto (tgt := 88) hx hb d_B_classUp_83 (by decide) ?_
    exact pm_ret hx hb hr hlk (nar_i _) (by rw [f_B_classUp, if_neg c_1, if_neg c_2, if_neg c_6, if_neg c_7, if_neg c_8, if_neg c_12, if_neg c_16, if_neg c_20, if_neg c_24, if_neg c_25, if_pos c_26]) d_B_classUp_88
  · skip
    refine lv_iload_n hx hb d_B_classUp_74 rfl (lv_at hl 0 rfl) ?_
    refine pm_callE hF hN (c_B_isInterface l t) k_B_isInterface j_B_76 ⟨Nat.le_of_ble_eq_true rfl, Nat.le_of_ble_eq_true rfl⟩ rfl hl.1 (Nat.le_of_ble_eq_true rfl) d_B_classUp_75 ⟨Nat.le_refl _, Nat.le_refl _⟩ ?_
    refine lv_if_eq (tgt := 86) hx hb d_B_classUp_78 (by decide) (fun c_28 => ?_) (fun c_28 => ?_)
    · skip
      refine lv_bipush (v := 9) hx hb d_B_classUp_86 (by decide) ?_
      exact pm_ret hx hb hr hlk (nar_i _) (by rw [f_B_classUp, if_neg c_1, if_neg c_2, if_neg c_6, if_neg c_7, if_neg c_8, if_neg c_12, if_neg c_16, if_neg c_20, if_neg c_24, if_neg c_25, if_neg c_26, if_pos c_28]) d_B_classUp_88
    · skip
      refine lv_bipush (v := (-2)) hx hb d_B_classUp_81 (by decide) ?_
      refine lv_goto (tgt := 88) hx hb d_B_classUp_83 (by decide) ?_
      exact pm_ret hx hb hr hlk (nar_i _) (by rw [f_B_classUp, if_neg c_1, if_neg c_2, if_neg c_6, if_neg c_7, if_neg c_8, if_neg c_12, if_neg c_16, if_neg c_20, if_neg c_24, if_neg c_25, if_neg c_26, if_neg c_28]) d_B_classUp_88
def f_B_interfaceCount (t : Int32) : Int32 := (if (f_B_isArray t) = 0 then (if t = 15 then 2 else (if t = 14 then 1 else (if t = 20 then 1 else (if t = 21 then 1 else (if t = 23 then 1 else (if t = 24 then 1 else 0)))))) else 2)
set_option maxRecDepth 100000 in
theorem k_B_interfaceCount : ck y_B_interfaceCount b_B_interfaceCount 1 (some .int) 1 (.static y_B_interfaceCount) := ⟨tk_of (List.mem_of_getElem? (i := 473) rfl) rfl, tk_of (List.mem_of_getElem? (i := 472) (by decide +kernel)) rfl, tk_of (List.mem_of_getElem? (i := 44) (by decide +kernel)) rfl, by decide +kernel⟩
set_option maxHeartbeats 4000000 in
set_option maxRecDepth 100000 in
theorem c_B_interfaceCount (l : Launch) (t : Int32) : pmI l y_B_interfaceCount b_B_interfaceCount 1 .int 1 20 [.int t] (fun r => r = f_B_interfaceCount t) := by
  refine pm_of (by decide) (Nat.le_of_ble_eq_true rfl) ?_
  intro p e s m below meth c ls hx hb hF hr hlk hN hl
  have hl : lv_has ls 1 [(0, .int t)] := hl
  refine lv_iload_n hx hb d_B_interfaceCount_0 rfl (lv_at hl 0 rfl) ?_
  refine pm_callE hF hN (c_B_isArray l t) k_B_isArray j_B_72 ⟨Nat.le_of_ble_eq_true rfl, Nat.le_of_ble_eq_true rfl⟩ rfl hl.1 (Nat.le_of_ble_eq_true rfl) d_B_interfaceCount_1 ⟨Nat.le_refl _, Nat.le_refl _⟩ ?_
  refine lv_if_ne (tgt := 13) hx hb d_B_interfaceCount_4 (by decide) (fun c_2 => ?_) (fun c_2 => ?_)
  · skip
    refine lv_iconst (v := 2) hx hb d_B_interfaceCount_13 (by decide) ?_
    exact pm_ret hx hb hr hlk (nar_i _) (by rw [f_B_interfaceCount, if_neg c_2]) d_B_interfaceCount_14
  · skip
    refine lv_iload_n hx hb d_B_interfaceCount_7 rfl (lv_at hl 0 rfl) ?_
    refine lv_bipush (v := 15) hx hb d_B_interfaceCount_8 (by decide) ?_
    refine lv_icmp_ne (tgt := 15) hx hb d_B_interfaceCount_10 (by decide) (fun c_3 => ?_) (fun c_3 => ?_)
    · skip
      refine lv_iload_n hx hb d_B_interfaceCount_15 rfl (lv_at hl 0 rfl) ?_
      refine lv_bipush (v := 14) hx hb d_B_interfaceCount_16 (by decide) ?_
      refine lv_icmp_eq (tgt := 45) hx hb d_B_interfaceCount_18 (by decide) (fun c_4 => ?_) (fun c_4 => ?_)
      · skip
        refine lv_iconst (v := 1) hx hb d_B_interfaceCount_45 (by decide) ?_
        refine lv_goto (tgt := 50) hx hb d_B_interfaceCount_46 (by decide) ?_
        exact pm_ret hx hb hr hlk (nar_i _) (by rw [f_B_interfaceCount, if_pos c_2, if_neg c_3, if_pos c_4]) d_B_interfaceCount_50
      · skip
        refine lv_iload_n hx hb d_B_interfaceCount_21 rfl (lv_at hl 0 rfl) ?_
        refine lv_bipush (v := 20) hx hb d_B_interfaceCount_22 (by decide) ?_
        refine lv_icmp_eq (tgt := 45) hx hb d_B_interfaceCount_24 (by decide) (fun c_5 => ?_) (fun c_5 => ?_)
        · skip
          refine lv_iconst (v := 1) hx hb d_B_interfaceCount_45 (by decide) ?_
          refine lv_goto (tgt := 50) hx hb d_B_interfaceCount_46 (by decide) ?_
          exact pm_ret hx hb hr hlk (nar_i _) (by rw [f_B_interfaceCount, if_pos c_2, if_neg c_3, if_neg c_4, if_pos c_5]) d_B_interfaceCount_50
        · skip
          refine lv_iload_n hx hb d_B_interfaceCount_27 rfl (lv_at hl 0 rfl) ?_
          refine lv_bipush (v := 21) hx hb d_B_interfaceCount_28 (by decide) ?_
          refine lv_icmp_eq (tgt := 45) hx hb d_B_interfaceCount_30 (by decide) (fun c_6 => ?_) (fun c_6 => ?_)
          · skip
            refine lv_iconst (v := 1) hx hb d_B_interfaceCount_45 (by decide) ?_
            refine lv_goto (tgt := 50) hx hb d_B_interfaceCount_46 (by decide) ?_
            exact pm_ret hx hb hr hlk (nar_i _) (by rw [f_B_interfaceCount, if_pos c_2, if_neg c_3, if_neg c_4, if_neg c_5, if_pos c_6]) d_B_interfaceCount_50
          · skip
            refine lv_iload_n hx hb d_B_interfaceCount_33 rfl (lv_at hl 0 rfl) ?_
            refine lv_bipush (v := 23) hx hb d_B_interfaceCount_34 (by decide) ?_
            refine lv_icmp_eq (tgt := 45) hx hb d_B_interfaceCount_36 (by decide) (fun c_7 => ?_) (fun c_7 => ?_)
            · skip
              refine lv_iconst (v := 1) hx hb d_B_interfaceCount_45 (by decide) ?_
              refine lv_goto (tgt := 50) hx hb d_B_interfaceCount_46 (by decide) ?_
              exact pm_ret hx hb hr hlk (nar_i _) (by rw [f_B_interfaceCount, if_pos c_2, if_neg c_3, if_neg c_4, if_neg c_5, if_neg c_6, if_pos c_7]) d_B_interfaceCount_50
            · skip
              refine lv_iload_n hx hb d_B_interfaceCount_39 rfl (lv_at hl 0 rfl) ?_
              refine lv_bipush (v := 24) hx hb d_B_interfaceCount_40 (by decide) ?_
              refine lv_icmp_ne (tgt := 49) hx hb d_B_interfaceCount_42 (by decide) (fun c_8 => ?_) (fun c_8 => ?_)
              · skip
                refine lv_iconst (v := 0) hx hb d_B_interfaceCount_49 (by decide) ?_
                exact pm_ret hx hb hr hlk (nar_i _) (by rw [f_B_interfaceCount, if_pos c_2, if_neg c_3, if_neg c_4, if_neg c_5, if_neg c_6, if_neg c_7, if_neg c_8]) d_B_interfaceCount_50
              · skip
                refine lv_iconst (v := 1) hx hb d_B_interfaceCount_45 (by decide) ?_
                refine lv_goto (tgt := 50) hx hb d_B_interfaceCount_46 (by decide) ?_
                exact pm_ret hx hb hr hlk (nar_i _) (by rw [f_B_interfaceCount, if_pos c_2, if_neg c_3, if_neg c_4, if_neg c_5, if_neg c_6, if_neg c_7, if_pos c_8]) d_B_interfaceCount_50
    · skip
      refine lv_iconst (v := 2) hx hb d_B_interfaceCount_13 (by decide) ?_
      exact pm_ret hx hb hr hlk (nar_i _) (by rw [f_B_interfaceCount, if_pos c_2, if_pos c_3]) d_B_interfaceCount_14
def f_B_interfaceAt (t : Int32) (k : Int32) : Int32 := (if k < 0 then (-2) else (if k < (f_B_interfaceCount t) then (if t = 14 then 13 else (if t = 15 then (if k = 0 then 13 else 12) else (if t = 23 then 12 else (if t = 24 then 10 else (-3))))) else (-2)))
set_option maxRecDepth 100000 in
theorem k_B_interfaceAt : ck y_B_interfaceAt b_B_interfaceAt 2 (some .int) 2 (.static y_B_interfaceAt) := ⟨tk_of (List.mem_of_getElem? (i := 507) rfl) rfl, tk_of (List.mem_of_getElem? (i := 506) (by decide +kernel)) rfl, tk_of (List.mem_of_getElem? (i := 44) (by decide +kernel)) rfl, by decide +kernel⟩
theorem j_B_79 : Cond.methodLink R_B 79 y_B_interfaceCount ∈ tk := tk_of (List.mem_of_getElem? (i := 508) (by decide +kernel)) rfl
set_option maxHeartbeats 4000000 in
set_option maxRecDepth 100000 in
theorem c_B_interfaceAt (l : Launch) (t : Int32) (k : Int32) : pmI l y_B_interfaceAt b_B_interfaceAt 2 .int 2 40 [.int t, .int k] (fun r => r = f_B_interfaceAt t k) := by
  refine pm_of (by decide) (Nat.le_of_ble_eq_true rfl) ?_
  intro p e s m below meth c ls hx hb hF hr hlk hN hl
  have hl : lv_has ls 2 [(0, .int t), (1, .int k)] := hl
  refine lv_iload_n hx hb d_B_interfaceAt_0 rfl (lv_at hl 1 rfl) ?_
  refine lv_if_lt (tgt := 12) hx hb d_B_interfaceAt_1 (by decide) (fun c_1 => ?_) (fun c_1 => ?_)
  · skip
    refine lv_bipush (v := (-2)) hx hb d_B_interfaceAt_12 (by decide) ?_
    exact pm_ret hx hb hr hlk (nar_i _) (by rw [f_B_interfaceAt, if_pos c_1]) d_B_interfaceAt_14
  · skip
    refine lv_iload_n hx hb d_B_interfaceAt_4 rfl (lv_at hl 1 rfl) ?_
    refine lv_iload_n hx hb d_B_interfaceAt_5 rfl (lv_at hl 0 rfl) ?_
    refine pm_callE hF hN (c_B_interfaceCount l t) k_B_interfaceCount j_B_79 ⟨Nat.le_of_ble_eq_true rfl, Nat.le_of_ble_eq_true rfl⟩ rfl hl.1 (Nat.le_of_ble_eq_true rfl) d_B_interfaceAt_6 ⟨Nat.le_refl _, Nat.le_refl _⟩ ?_
    refine lv_icmp_lt (tgt := 15) hx hb d_B_interfaceAt_9 (by decide) (fun c_3 => ?_) (fun c_3 => ?_)
    · skip
      refine lv_iload_n hx hb d_B_interfaceAt_15 rfl (lv_at hl 0 rfl) ?_
      by_cases c_4 : t = 14
      · refine lv_lookup (tgt := 60) (off := 44) hx hb d_B_interfaceAt_16 (by decide) (by rw [c_4]; decide) (by decide) ?_
        refine lv_bipush (v := 13) hx hb d_B_interfaceAt_60 (by decide) ?_
        exact pm_ret hx hb hr hlk (nar_i _) (by rw [f_B_interfaceAt, if_neg c_1, if_pos c_3, if_pos c_4]) d_B_interfaceAt_62
      by_cases c_5 : t = 15
      · refine lv_lookup (tgt := 63) (off := 47) hx hb d_B_interfaceAt_16 (by decide) (by rw [c_5]; decide) (by decide) ?_
        refine lv_iload_n hx hb d_B_interfaceAt_63 rfl (lv_at hl 1 rfl) ?_
        refine lv_if_ne (tgt := 72) hx hb d_B_interfaceAt_64 (by decide) (fun c_6 => ?_) (fun c_6 => ?_)
        · skip
          refine lv_bipush (v := 12) hx hb d_B_interfaceAt_72 (by decide) ?_
          exact pm_ret hx hb hr hlk (nar_i _) (by rw [f_B_interfaceAt, if_neg c_1, if_pos c_3, if_neg c_4, if_pos c_5, if_neg c_6]) d_B_interfaceAt_74
        · skip
          refine lv_bipush (v := 13) hx hb d_B_interfaceAt_67 (by decide) ?_
          refine lv_goto (tgt := 74) hx hb d_B_interfaceAt_69 (by decide) ?_
          exact pm_ret hx hb hr hlk (nar_i _) (by rw [f_B_interfaceAt, if_neg c_1, if_pos c_3, if_neg c_4, if_pos c_5, if_pos c_6]) d_B_interfaceAt_74
      by_cases c_7 : t = 23
      · refine lv_lookup (tgt := 75) (off := 59) hx hb d_B_interfaceAt_16 (by decide) (by rw [c_7]; decide) (by decide) ?_
        refine lv_bipush (v := 12) hx hb d_B_interfaceAt_75 (by decide) ?_
        exact pm_ret hx hb hr hlk (nar_i _) (by rw [f_B_interfaceAt, if_neg c_1, if_pos c_3, if_neg c_4, if_neg c_5, if_pos c_7]) d_B_interfaceAt_77
      by_cases c_8 : t = 24
      · refine lv_lookup (tgt := 78) (off := 62) hx hb d_B_interfaceAt_16 (by decide) (by rw [c_8]; decide) (by decide) ?_
        refine lv_bipush (v := 10) hx hb d_B_interfaceAt_78 (by decide) ?_
        exact pm_ret hx hb hr hlk (nar_i _) (by rw [f_B_interfaceAt, if_neg c_1, if_pos c_3, if_neg c_4, if_neg c_5, if_neg c_7, if_pos c_8]) d_B_interfaceAt_80
      refine lv_lookup (tgt := 81) (off := 65) hx hb d_B_interfaceAt_16 (by decide) ((lv_osw c_4 (by decide)).trans ((lv_osw c_5 (by decide)).trans ((lv_osw c_7 (by decide)).trans ((lv_osw c_8 (by decide)).trans (rfl))))) (by decide) ?_
      refine lv_bipush (v := (-3)) hx hb d_B_interfaceAt_81 (by decide) ?_
      exact pm_ret hx hb hr hlk (nar_i _) (by rw [f_B_interfaceAt, if_neg c_1, if_pos c_3, if_neg c_4, if_neg c_5, if_neg c_7, if_neg c_8]) d_B_interfaceAt_83
    · skip
      refine lv_bipush (v := (-2)) hx hb d_B_interfaceAt_12 (by decide) ?_
      exact pm_ret hx hb hr hlk (nar_i _) (by rw [f_B_interfaceAt, if_neg c_1, if_neg c_3]) d_B_interfaceAt_14
def f_B_standsIn (t : Int32) : Int32 := (if t = 17 then 16 else (if t = 19 then 18 else (if (f_B_isInNest t) = 0 then (-2) else (if t = 11 then (-2) else 11))))
set_option maxRecDepth 100000 in
theorem k_B_standsIn : ck y_B_standsIn b_B_standsIn 1 (some .int) 1 (.static y_B_standsIn) := ⟨tk_of (List.mem_of_getElem? (i := 496) rfl) rfl, tk_of (List.mem_of_getElem? (i := 495) (by decide +kernel)) rfl, tk_of (List.mem_of_getElem? (i := 44) (by decide +kernel)) rfl, by decide +kernel⟩
theorem j_B_96 : Cond.methodLink R_B 96 y_B_isInNest ∈ tk := tk_of (List.mem_of_getElem? (i := 483) (by decide +kernel)) rfl
set_option maxHeartbeats 4000000 in
set_option maxRecDepth 100000 in
theorem c_B_standsIn (l : Launch) (t : Int32) : pmI l y_B_standsIn b_B_standsIn 1 .int 1 20 [.int t] (fun r => r = f_B_standsIn t) := by
  refine pm_of (by decide) (Nat.le_of_ble_eq_true rfl) ?_
  intro p e s m below meth c ls hx hb hF hr hlk hN hl
  have hl : lv_has ls 1 [(0, .int t)] := hl
  refine lv_iload_n hx hb d_B_standsIn_0 rfl (lv_at hl 0 rfl) ?_
  refine lv_bipush (v := 17) hx hb d_B_standsIn_1 (by decide) ?_
  refine lv_icmp_ne (tgt := 9) hx hb d_B_standsIn_3 (by decide) (fun c_1 => ?_) (fun c_1 => ?_)
  · skip
    refine lv_iload_n hx hb d_B_standsIn_9 rfl (lv_at hl 0 rfl) ?_
    refine lv_bipush (v := 19) hx hb d_B_standsIn_10 (by decide) ?_
    refine lv_icmp_ne (tgt := 18) hx hb d_B_standsIn_12 (by decide) (fun c_2 => ?_) (fun c_2 => ?_)
    · skip
      refine lv_iload_n hx hb d_B_standsIn_18 rfl (lv_at hl 0 rfl) ?_
      refine pm_callE hF hN (c_B_isInNest l t) k_B_isInNest j_B_96 ⟨Nat.le_of_ble_eq_true rfl, Nat.le_of_ble_eq_true rfl⟩ rfl hl.1 (Nat.le_of_ble_eq_true rfl) d_B_standsIn_19 ⟨Nat.le_refl _, Nat.le_refl _⟩ ?_
      refine lv_if_eq (tgt := 36) hx hb d_B_standsIn_22 (by decide) (fun c_4 => ?_) (fun c_4 => ?_)
      · skip
        refine lv_bipush (v := (-2)) hx hb d_B_standsIn_36 (by decide) ?_
        exact pm_ret hx hb hr hlk (nar_i _) (by rw [f_B_standsIn, if_neg c_1, if_neg c_2, if_pos c_4]) d_B_standsIn_38
      · skip
        refine lv_iload_n hx hb d_B_standsIn_25 rfl (lv_at hl 0 rfl) ?_
        refine lv_bipush (v := 11) hx hb d_B_standsIn_26 (by decide) ?_
        refine lv_icmp_eq (tgt := 36) hx hb d_B_standsIn_28 (by decide) (fun c_5 => ?_) (fun c_5 => ?_)
        · skip
          refine lv_bipush (v := (-2)) hx hb d_B_standsIn_36 (by decide) ?_
          exact pm_ret hx hb hr hlk (nar_i _) (by rw [f_B_standsIn, if_neg c_1, if_neg c_2, if_neg c_4, if_pos c_5]) d_B_standsIn_38
        · skip
          refine lv_bipush (v := 11) hx hb d_B_standsIn_31 (by decide) ?_
          refine lv_goto (tgt := 38) hx hb d_B_standsIn_33 (by decide) ?_
          exact pm_ret hx hb hr hlk (nar_i _) (by rw [f_B_standsIn, if_neg c_1, if_neg c_2, if_neg c_4, if_neg c_5]) d_B_standsIn_38
    · skip
      refine lv_bipush (v := 18) hx hb d_B_standsIn_15 (by decide) ?_
      exact pm_ret hx hb hr hlk (nar_i _) (by rw [f_B_standsIn, if_neg c_1, if_pos c_2]) d_B_standsIn_17
  · skip
    refine lv_bipush (v := 16) hx hb d_B_standsIn_6 (by decide) ?_
    exact pm_ret hx hb hr hlk (nar_i _) (by rw [f_B_standsIn, if_pos c_1]) d_B_standsIn_8
def f_B_permitted (t : Int32) : Int32 := (if t = 13 then 2 else (if t = 16 then 1 else (-2)))
set_option maxRecDepth 100000 in
theorem k_B_permitted : ck y_B_permitted b_B_permitted 1 (some .int) 1 (.static y_B_permitted) := ⟨tk_of (List.mem_of_getElem? (i := 476) rfl) rfl, tk_of (List.mem_of_getElem? (i := 475) (by decide +kernel)) rfl, tk_of (List.mem_of_getElem? (i := 44) (by decide +kernel)) rfl, by decide +kernel⟩
set_option maxHeartbeats 4000000 in
set_option maxRecDepth 100000 in
theorem c_B_permitted (l : Launch) (t : Int32) : pmI l y_B_permitted b_B_permitted 1 .int 0 0 [.int t] (fun r => r = f_B_permitted t) := by
  refine pm_of (by decide) (Nat.le_of_ble_eq_true rfl) ?_
  intro p e s m below meth c ls hx hb hF hr hlk hN hl
  have hl : lv_has ls 1 [(0, .int t)] := hl
  refine lv_iload_n hx hb d_B_permitted_0 rfl (lv_at hl 0 rfl) ?_
  refine lv_bipush (v := 13) hx hb d_B_permitted_1 (by decide) ?_
  refine lv_icmp_ne (tgt := 8) hx hb d_B_permitted_3 (by decide) (fun c_1 => ?_) (fun c_1 => ?_)
  · skip
    refine lv_iload_n hx hb d_B_permitted_8 rfl (lv_at hl 0 rfl) ?_
    refine lv_bipush (v := 16) hx hb d_B_permitted_9 (by decide) ?_
    refine lv_icmp_ne (tgt := 18) hx hb d_B_permitted_11 (by decide) (fun c_2 => ?_) (fun c_2 => ?_)
    · skip
      refine lv_bipush (v := (-2)) hx hb d_B_permitted_18 (by decide) ?_
      exact pm_ret hx hb hr hlk (nar_i _) (by rw [f_B_permitted, if_neg c_1, if_neg c_2]) d_B_permitted_20
    · skip
      refine lv_iconst (v := 1) hx hb d_B_permitted_14 (by decide) ?_
      refine lv_goto (tgt := 20) hx hb d_B_permitted_15 (by decide) ?_
      exact pm_ret hx hb hr hlk (nar_i _) (by rw [f_B_permitted, if_neg c_1, if_pos c_2]) d_B_permitted_20
  · skip
    refine lv_iconst (v := 2) hx hb d_B_permitted_6 (by decide) ?_
    exact pm_ret hx hb hr hlk (nar_i _) (by rw [f_B_permitted, if_pos c_1]) d_B_permitted_7
def f_B_memberCount (t : Int32) : Int32 := (if t = 11 then 9 else (if t = 18 then 1 else 0))
set_option maxRecDepth 100000 in
theorem k_B_memberCount : ck y_B_memberCount b_B_memberCount 1 (some .int) 1 (.static y_B_memberCount) := ⟨tk_of (List.mem_of_getElem? (i := 479) rfl) rfl, tk_of (List.mem_of_getElem? (i := 478) (by decide +kernel)) rfl, tk_of (List.mem_of_getElem? (i := 44) (by decide +kernel)) rfl, by decide +kernel⟩
set_option maxHeartbeats 4000000 in
set_option maxRecDepth 100000 in
theorem c_B_memberCount (l : Launch) (t : Int32) : pmI l y_B_memberCount b_B_memberCount 1 .int 0 0 [.int t] (fun r => r = f_B_memberCount t) := by
  refine pm_of (by decide) (Nat.le_of_ble_eq_true rfl) ?_
  intro p e s m below meth c ls hx hb hF hr hlk hN hl
  have hl : lv_has ls 1 [(0, .int t)] := hl
  refine lv_iload_n hx hb d_B_memberCount_0 rfl (lv_at hl 0 rfl) ?_
  refine lv_bipush (v := 11) hx hb d_B_memberCount_1 (by decide) ?_
  refine lv_icmp_ne (tgt := 9) hx hb d_B_memberCount_3 (by decide) (fun c_1 => ?_) (fun c_1 => ?_)
  · skip
    refine lv_iload_n hx hb d_B_memberCount_9 rfl (lv_at hl 0 rfl) ?_
    refine lv_bipush (v := 18) hx hb d_B_memberCount_10 (by decide) ?_
    refine lv_icmp_ne (tgt := 19) hx hb d_B_memberCount_12 (by decide) (fun c_2 => ?_) (fun c_2 => ?_)
    · skip
      refine lv_iconst (v := 0) hx hb d_B_memberCount_19 (by decide) ?_
      exact pm_ret hx hb hr hlk (nar_i _) (by rw [f_B_memberCount, if_neg c_1, if_neg c_2]) d_B_memberCount_20
    · skip
      refine lv_iconst (v := 1) hx hb d_B_memberCount_15 (by decide) ?_
      refine lv_goto (tgt := 20) hx hb d_B_memberCount_16 (by decide) ?_
      exact pm_ret hx hb hr hlk (nar_i _) (by rw [f_B_memberCount, if_neg c_1, if_pos c_2]) d_B_memberCount_20
  · skip
    refine lv_bipush (v := 9) hx hb d_B_memberCount_6 (by decide) ?_
    exact pm_ret hx hb hr hlk (nar_i _) (by rw [f_B_memberCount, if_pos c_1]) d_B_memberCount_8
def f_B_nestSize (t : Int32) : Int32 := (if t = 9 then (-1) else (if t = 10 then (-1) else (if (f_B_isInNest t) = 0 then 1 else 14)))
set_option maxRecDepth 100000 in
theorem k_B_nestSize : ck y_B_nestSize b_B_nestSize 1 (some .int) 1 (.static y_B_nestSize) := ⟨tk_of (List.mem_of_getElem? (i := 482) rfl) rfl, tk_of (List.mem_of_getElem? (i := 481) (by decide +kernel)) rfl, tk_of (List.mem_of_getElem? (i := 44) (by decide +kernel)) rfl, by decide +kernel⟩
set_option maxHeartbeats 4000000 in
set_option maxRecDepth 100000 in
theorem c_B_nestSize (l : Launch) (t : Int32) : pmI l y_B_nestSize b_B_nestSize 1 .int 1 20 [.int t] (fun r => r = f_B_nestSize t) := by
  refine pm_of (by decide) (Nat.le_of_ble_eq_true rfl) ?_
  intro p e s m below meth c ls hx hb hF hr hlk hN hl
  have hl : lv_has ls 1 [(0, .int t)] := hl
  refine lv_iload_n hx hb d_B_nestSize_0 rfl (lv_at hl 0 rfl) ?_
  refine lv_bipush (v := 9) hx hb d_B_nestSize_1 (by decide) ?_
  refine lv_icmp_eq (tgt := 12) hx hb d_B_nestSize_3 (by decide) (fun c_1 => ?_) (fun c_1 => ?_)
  · skip
    refine lv_iconst (v := (-1)) hx hb d_B_nestSize_12 (by decide) ?_
    exact pm_ret hx hb hr hlk (nar_i _) (by rw [f_B_nestSize, if_pos c_1]) d_B_nestSize_13
  · skip
    refine lv_iload_n hx hb d_B_nestSize_6 rfl (lv_at hl 0 rfl) ?_
    refine lv_bipush (v := 10) hx hb d_B_nestSize_7 (by decide) ?_
    refine lv_icmp_ne (tgt := 14) hx hb d_B_nestSize_9 (by decide) (fun c_2 => ?_) (fun c_2 => ?_)
    · skip
      refine lv_iload_n hx hb d_B_nestSize_14 rfl (lv_at hl 0 rfl) ?_
      refine pm_callE hF hN (c_B_isInNest l t) k_B_isInNest j_B_96 ⟨Nat.le_of_ble_eq_true rfl, Nat.le_of_ble_eq_true rfl⟩ rfl hl.1 (Nat.le_of_ble_eq_true rfl) d_B_nestSize_15 ⟨Nat.le_refl _, Nat.le_refl _⟩ ?_
      refine lv_if_eq (tgt := 26) hx hb d_B_nestSize_18 (by decide) (fun c_4 => ?_) (fun c_4 => ?_)
      · skip
        refine lv_iconst (v := 1) hx hb d_B_nestSize_26 (by decide) ?_
        exact pm_ret hx hb hr hlk (nar_i _) (by rw [f_B_nestSize, if_neg c_1, if_neg c_2, if_pos c_4]) d_B_nestSize_27
      · skip
        refine lv_bipush (v := 14) hx hb d_B_nestSize_21 (by decide) ?_
        refine lv_goto (tgt := 27) hx hb d_B_nestSize_23 (by decide) ?_
        exact pm_ret hx hb hr hlk (nar_i _) (by rw [f_B_nestSize, if_neg c_1, if_neg c_2, if_neg c_4]) d_B_nestSize_27
    · skip
      refine lv_iconst (v := (-1)) hx hb d_B_nestSize_12 (by decide) ?_
      exact pm_ret hx hb hr hlk (nar_i _) (by rw [f_B_nestSize, if_neg c_1, if_pos c_2]) d_B_nestSize_13
def f_B_arrayOf (t : Int32) (k : Int32) : Int32 := (if k ≤ 0 then (if k ≤ (2 - (f_B_levels t)) then (t + (k * 40)) else (-3)) else (if t = 8 then (-2) else (if k ≤ (2 - (f_B_levels t)) then (t + (k * 40)) else (-3))))
set_option maxRecDepth 100000 in
theorem k_B_arrayOf : ck y_B_arrayOf b_B_arrayOf 2 (some .int) 2 (.static y_B_arrayOf) := ⟨tk_of (List.mem_of_getElem? (i := 500) rfl) rfl, tk_of (List.mem_of_getElem? (i := 499) (by decide +kernel)) rfl, tk_of (List.mem_of_getElem? (i := 44) (by decide +kernel)) rfl, by decide +kernel⟩
set_option maxHeartbeats 4000000 in
set_option maxRecDepth 100000 in
theorem c_B_arrayOf (l : Launch) (t : Int32) (k : Int32) : pmI l y_B_arrayOf b_B_arrayOf 2 .int 1 20 [.int t, .int k] (fun r => r = f_B_arrayOf t k) := by
  refine pm_of (by decide) (Nat.le_of_ble_eq_true rfl) ?_
  intro p e s m below meth c ls hx hb hF hr hlk hN hl
  have hl : lv_has ls 2 [(0, .int t), (1, .int k)] := hl
  refine lv_iload_n hx hb d_B_arrayOf_0 rfl (lv_at hl 1 rfl) ?_
  refine lv_if_le (tgt := 13) hx hb d_B_arrayOf_1 (by decide) (fun c_1 => ?_) (fun c_1 => ?_)
  · skip
    refine lv_iload_n hx hb d_B_arrayOf_13 rfl (lv_at hl 1 rfl) ?_
    refine lv_iconst (v := 2) hx hb d_B_arrayOf_14 (by decide) ?_
    refine lv_iload_n hx hb d_B_arrayOf_15 rfl (lv_at hl 0 rfl) ?_
    refine pm_callE hF hN (c_B_levels l t) k_B_levels j_B_9 ⟨Nat.le_of_ble_eq_true rfl, Nat.le_of_ble_eq_true rfl⟩ rfl hl.1 (Nat.le_of_ble_eq_true rfl) d_B_arrayOf_16 ⟨Nat.le_refl _, Nat.le_refl _⟩ ?_
    refine lv_isub hx hb d_B_arrayOf_19 ?_
    refine lv_icmp_le (tgt := 28) hx hb d_B_arrayOf_20 (by decide) (fun c_3 => ?_) (fun c_3 => ?_)
    · skip
      refine lv_iload_n hx hb d_B_arrayOf_28 rfl (lv_at hl 0 rfl) ?_
      refine lv_iload_n hx hb d_B_arrayOf_29 rfl (lv_at hl 1 rfl) ?_
      refine lv_bipush (v := 40) hx hb d_B_arrayOf_30 (by decide) ?_
      refine lv_imul hx hb d_B_arrayOf_32 ?_
      refine lv_iadd hx hb d_B_arrayOf_33 ?_
      exact pm_ret hx hb hr hlk (nar_i _) (by rw [f_B_arrayOf, if_pos c_1, if_pos c_3]) d_B_arrayOf_34
    · skip
      refine lv_bipush (v := (-3)) hx hb d_B_arrayOf_23 (by decide) ?_
      refine lv_goto (tgt := 34) hx hb d_B_arrayOf_25 (by decide) ?_
      exact pm_ret hx hb hr hlk (nar_i _) (by rw [f_B_arrayOf, if_pos c_1, if_neg c_3]) d_B_arrayOf_34
  · skip
    refine lv_iload_n hx hb d_B_arrayOf_4 rfl (lv_at hl 0 rfl) ?_
    refine lv_bipush (v := 8) hx hb d_B_arrayOf_5 (by decide) ?_
    refine lv_icmp_ne (tgt := 13) hx hb d_B_arrayOf_7 (by decide) (fun c_4 => ?_) (fun c_4 => ?_)
    · skip
      refine lv_iload_n hx hb d_B_arrayOf_13 rfl (lv_at hl 1 rfl) ?_
      refine lv_iconst (v := 2) hx hb d_B_arrayOf_14 (by decide) ?_
      refine lv_iload_n hx hb d_B_arrayOf_15 rfl (lv_at hl 0 rfl) ?_
      refine pm_callE hF hN (c_B_levels l t) k_B_levels j_B_9 ⟨Nat.le_of_ble_eq_true rfl, Nat.le_of_ble_eq_true rfl⟩ rfl hl.1 (Nat.le_of_ble_eq_true rfl) d_B_arrayOf_16 ⟨Nat.le_refl _, Nat.le_refl _⟩ ?_
      refine lv_isub hx hb d_B_arrayOf_19 ?_
      refine lv_icmp_le (tgt := 28) hx hb d_B_arrayOf_20 (by decide) (fun c_6 => ?_) (fun c_6 => ?_)
      · skip
        refine lv_iload_n hx hb d_B_arrayOf_28 rfl (lv_at hl 0 rfl) ?_
        refine lv_iload_n hx hb d_B_arrayOf_29 rfl (lv_at hl 1 rfl) ?_
        refine lv_bipush (v := 40) hx hb d_B_arrayOf_30 (by decide) ?_
        refine lv_imul hx hb d_B_arrayOf_32 ?_
        refine lv_iadd hx hb d_B_arrayOf_33 ?_
        exact pm_ret hx hb hr hlk (nar_i _) (by rw [f_B_arrayOf, if_neg c_1, if_neg c_4, if_pos c_6]) d_B_arrayOf_34
      · skip
        refine lv_bipush (v := (-3)) hx hb d_B_arrayOf_23 (by decide) ?_
        refine lv_goto (tgt := 34) hx hb d_B_arrayOf_25 (by decide) ?_
        exact pm_ret hx hb hr hlk (nar_i _) (by rw [f_B_arrayOf, if_neg c_1, if_neg c_4, if_neg c_6]) d_B_arrayOf_34
    · skip
      refine lv_bipush (v := (-2)) hx hb d_B_arrayOf_10 (by decide) ?_
      exact pm_ret hx hb hr hlk (nar_i _) (by rw [f_B_arrayOf, if_neg c_1, if_pos c_4]) d_B_arrayOf_12
def f_B_hasThings (t : Int32) : Int32 := (if t = 9 then 1 else (if t < 11 then 0 else (if (f_B_isInterface t) = 0 then (if t = 21 then 0 else 1) else 0)))
set_option maxRecDepth 100000 in
theorem z_B_hasThings (t : Int32) : f_B_hasThings t = 0 ∨ f_B_hasThings t = 1 := by
  unfold f_B_hasThings
  repeat' first | with_reducible refine z_ite ?_ ?_ | with_reducible exact z_B_isInterface _ | with_reducible exact Or.inl rfl | with_reducible exact Or.inr rfl
set_option maxRecDepth 100000 in
theorem k_B_hasThings : ck y_B_hasThings b_B_hasThings 1 (some .boolean) 1 (.static y_B_hasThings) := ⟨tk_of (List.mem_of_getElem? (i := 640) rfl) rfl, tk_of (List.mem_of_getElem? (i := 639) (by decide +kernel)) rfl, tk_of (List.mem_of_getElem? (i := 44) (by decide +kernel)) rfl, by decide +kernel⟩
set_option maxHeartbeats 4000000 in
set_option maxRecDepth 100000 in
theorem c_B_hasThings (l : Launch) (t : Int32) : pmI l y_B_hasThings b_B_hasThings 1 .boolean 1 20 [.int t] (fun r => r = f_B_hasThings t) := by
  refine pm_of (by decide) (Nat.le_of_ble_eq_true rfl) ?_
  intro p e s m below meth c ls hx hb hF hr hlk hN hl
  have hl : lv_has ls 1 [(0, .int t)] := hl
  refine lv_iload_n hx hb d_B_hasThings_0 rfl (lv_at hl 0 rfl) ?_
  refine lv_bipush (v := 9) hx hb d_B_hasThings_1 (by decide) ?_
  refine lv_icmp_eq (tgt := 25) hx hb d_B_hasThings_3 (by decide) (fun c_1 => ?_) (fun c_1 => ?_)
  · skip
    refine lv_iconst (v := 1) hx hb d_B_hasThings_25 (by decide) ?_
    refine lv_goto (tgt := 30) hx hb d_B_hasThings_26 (by decide) ?_
    exact pm_ret hx hb hr hlk (by decide) (by rw [f_B_hasThings, if_pos c_1]) d_B_hasThings_30
  · skip
    refine lv_iload_n hx hb d_B_hasThings_6 rfl (lv_at hl 0 rfl) ?_
    refine lv_bipush (v := 11) hx hb d_B_hasThings_7 (by decide) ?_
    refine lv_icmp_lt (tgt := 29) hx hb d_B_hasThings_9 (by decide) (fun c_2 => ?_) (fun c_2 => ?_)
    · skip
      refine lv_iconst (v := 0) hx hb d_B_hasThings_29 (by decide) ?_
      exact pm_ret hx hb hr hlk (by decide) (by rw [f_B_hasThings, if_neg c_1, if_pos c_2]) d_B_hasThings_30
    · skip
      refine lv_iload_n hx hb d_B_hasThings_12 rfl (lv_at hl 0 rfl) ?_
      refine pm_callE hF hN (c_B_isInterface l t) k_B_isInterface j_B_76 ⟨Nat.le_of_ble_eq_true rfl, Nat.le_of_ble_eq_true rfl⟩ rfl hl.1 (Nat.le_of_ble_eq_true rfl) d_B_hasThings_13 ⟨Nat.le_refl _, Nat.le_refl _⟩ ?_
      refine lv_if_ne (tgt := 29) hx hb d_B_hasThings_16 (by decide) (fun c_4 => ?_) (fun c_4 => ?_)
      · skip
        refine lv_iconst (v := 0) hx hb d_B_hasThings_29 (by decide) ?_
        exact pm_ret hx hb hr hlk (by decide) (by rw [f_B_hasThings, if_neg c_1, if_neg c_2, if_neg c_4]) d_B_hasThings_30
      · skip
        refine lv_iload_n hx hb d_B_hasThings_19 rfl (lv_at hl 0 rfl) ?_
        refine lv_bipush (v := 21) hx hb d_B_hasThings_20 (by decide) ?_
        refine lv_icmp_eq (tgt := 29) hx hb d_B_hasThings_22 (by decide) (fun c_5 => ?_) (fun c_5 => ?_)
        · skip
          refine lv_iconst (v := 0) hx hb d_B_hasThings_29 (by decide) ?_
          exact pm_ret hx hb hr hlk (by decide) (by rw [f_B_hasThings, if_neg c_1, if_neg c_2, if_pos c_4, if_pos c_5]) d_B_hasThings_30
        · skip
          refine lv_iconst (v := 1) hx hb d_B_hasThings_25 (by decide) ?_
          refine lv_goto (tgt := 30) hx hb d_B_hasThings_26 (by decide) ?_
          exact pm_ret hx hb hr hlk (by decide) (by rw [f_B_hasThings, if_neg c_1, if_neg c_2, if_pos c_4, if_neg c_5]) d_B_hasThings_30
end
section
def g_B_reaches (t : Int32) : Nat → Int32 → Int32
  | 0, _ => 0
  | n + 1, a => (if a < 0 then 0 else (if a = t then 1 else (if (f_B_interfaceAt a 0) = t then 1 else (if (f_B_interfaceAt a 1) = t then 1 else (g_B_reaches t n (f_B_classUp a))))))
def f_B_reaches (u t : Int32) : Int32 := g_B_reaches t 25 u
theorem z_g_B_reaches (t : Int32) : ∀ (n : Nat) (a : Int32), g_B_reaches t n a = 0 ∨ g_B_reaches t n a = 1 := by
  intro n
  induction n with
  | zero => intro a; exact Or.inl rfl
  | succ n ih =>
    intro a
    rw [g_B_reaches]
    repeat' split
    all_goals first | exact Or.inl rfl | exact Or.inr rfl | exact ih _
theorem z_B_reaches (u t : Int32) : f_B_reaches u t = 0 ∨ f_B_reaches u t = 1 := z_g_B_reaches t 25 u
set_option maxRecDepth 100000 in
theorem k_B_reaches : ck y_B_reaches b_B_reaches 4 (some .boolean) 2 (.static y_B_reaches) := ⟨tk_of (List.mem_of_getElem? (i := 519) rfl) rfl, tk_of (List.mem_of_getElem? (i := 518) (by decide +kernel)) rfl, tk_of (List.mem_of_getElem? (i := 44) (by decide +kernel)) rfl, by decide +kernel⟩
theorem j_B_89 : Cond.methodLink R_B 89 y_B_interfaceAt ∈ tk := tk_of (List.mem_of_getElem? (i := 520) (by decide +kernel)) rfl
theorem j_B_93 : Cond.methodLink R_B 93 y_B_classUp ∈ tk := tk_of (List.mem_of_getElem? (i := 521) (by decide +kernel)) rfl
set_option maxHeartbeats 4000000 in
set_option maxRecDepth 100000 in
theorem lp_B_reaches {p : Program} {l : Launch} {e : Env} {s : State} {m : MethodId} {args : Array Value} {below : List Frame} {meth : Method} {c : Code} {post : Int32 → Prop} (hx : p.tables.exec = Jvm.exec) (hb : c.code = b_B_reaches) (hF : CallFix p m c b_B_reaches 4 s args tk R_B) (hr : meth.sig.returnType = some .boolean) (hlk : meth.locks = false) (hN : Nst s) (u t : Int32) : ∀ (n k : Nat) (x a : Int32), k + n = 25 → x = nI k → post (g_B_reaches t n a) → ∀ ls : Array Slot, lv_has ls 4 [(3, .int x), (2, .int a), (0, .int u), (1, .int t)] →
    W p l e ({ frames := 3, cells := 0, slots := 0, locals := 61 }) s m args below meth c s.heap [] 0 0 (MQ below (vp_Si post) args s 0 0 (fun _ => False)) (F0 m 4 ls []) := by
  intro n
  induction n with
  | zero =>
    intro k x a hk ex hp ls hl
    have hle : 25 ≤ x := by rw [ex]; exact nI_le (a := 25) (b := k) (by omega) (by omega)
    refine lv_iload_n hx hb d_B_reaches_4 rfl (lv_at hl 0 rfl) ?_
    refine lv_bipush (v := 25) hx hb d_B_reaches_5 (by decide) ?_
    refine lv_icmp_ge (tgt := 50) hx hb d_B_reaches_7 (by decide) (fun c_0 => ?_) (fun c_0 => absurd hle c_0)
    refine lv_iconst (v := 0) hx hb d_B_reaches_50 (by decide) ?_
    exact pm_ret hx hb hr hlk (by decide) hp d_B_reaches_51
  | succ n ih =>
    intro k x a hk ex hp ls hl
    have hlt : ¬ 25 ≤ x := by rw [ex]; exact nI_ge (a := k) (b := 25) (by omega) (by omega)
    refine lv_iload_n hx hb d_B_reaches_4 rfl (lv_at hl 0 rfl) ?_
    refine lv_bipush (v := 25) hx hb d_B_reaches_5 (by decide) ?_
    refine lv_icmp_ge (tgt := 50) hx hb d_B_reaches_7 (by decide) (fun c_1 => ?_) (fun c_1 => ?_)
    · exact absurd c_1 hlt
    · skip
      refine lv_iload_n hx hb d_B_reaches_10 rfl (lv_at hl 1 rfl) ?_
      refine lv_if_lt (tgt := 50) hx hb d_B_reaches_11 (by decide) (fun c_2 => ?_) (fun c_2 => ?_)
      · skip
        refine lv_iconst (v := 0) hx hb d_B_reaches_50 (by decide) ?_
        exact pm_ret hx hb hr hlk (by decide) (by have h := hp; rw [g_B_reaches, if_pos c_2] at h; exact h) d_B_reaches_51
      · skip
        refine lv_iload_n hx hb d_B_reaches_14 rfl (lv_at hl 1 rfl) ?_
        refine lv_iload_n hx hb d_B_reaches_15 rfl (lv_at hl 3 rfl) ?_
        refine lv_icmp_eq (tgt := 37) hx hb d_B_reaches_16 (by decide) (fun c_3 => ?_) (fun c_3 => ?_)
        · skip
          refine lv_iconst (v := 1) hx hb d_B_reaches_37 (by decide) ?_
          exact pm_ret hx hb hr hlk (by decide) (by have h := hp; rw [g_B_reaches, if_neg c_2, if_pos c_3] at h; exact h) d_B_reaches_38
        · skip
          refine lv_iload_n hx hb d_B_reaches_19 rfl (lv_at hl 1 rfl) ?_
          refine lv_iconst (v := 0) hx hb d_B_reaches_20 (by decide) ?_
          refine pm_callE hF hN (c_B_interfaceAt l a 0) k_B_interfaceAt j_B_89 ⟨Nat.le_of_ble_eq_true rfl, Nat.le_of_ble_eq_true rfl⟩ rfl hl.1 (Nat.le_of_ble_eq_true rfl) d_B_reaches_21 ⟨Nat.le_refl _, Nat.le_refl _⟩ ?_
          refine lv_iload_n hx hb d_B_reaches_24 rfl (lv_at hl 3 rfl) ?_
          refine lv_icmp_eq (tgt := 37) hx hb d_B_reaches_25 (by decide) (fun c_5 => ?_) (fun c_5 => ?_)
          · skip
            refine lv_iconst (v := 1) hx hb d_B_reaches_37 (by decide) ?_
            exact pm_ret hx hb hr hlk (by decide) (by have h := hp; rw [g_B_reaches, if_neg c_2, if_neg c_3, if_pos c_5] at h; exact h) d_B_reaches_38
          · skip
            refine lv_iload_n hx hb d_B_reaches_28 rfl (lv_at hl 1 rfl) ?_
            refine lv_iconst (v := 1) hx hb d_B_reaches_29 (by decide) ?_
            refine pm_callE hF hN (c_B_interfaceAt l a 1) k_B_interfaceAt j_B_89 ⟨Nat.le_of_ble_eq_true rfl, Nat.le_of_ble_eq_true rfl⟩ rfl hl.1 (Nat.le_of_ble_eq_true rfl) d_B_reaches_30 ⟨Nat.le_refl _, Nat.le_refl _⟩ ?_
            refine lv_iload_n hx hb d_B_reaches_33 rfl (lv_at hl 3 rfl) ?_
            refine lv_icmp_ne (tgt := 39) hx hb d_B_reaches_34 (by decide) (fun c_7 => ?_) (fun c_7 => ?_)
            · skip
              refine lv_iload_n hx hb d_B_reaches_39 rfl (lv_at hl 1 rfl) ?_
              refine pm_callE hF hN (c_B_classUp l a) k_B_classUp j_B_93 ⟨Nat.le_of_ble_eq_true rfl, Nat.le_of_ble_eq_true rfl⟩ rfl hl.1 (Nat.le_of_ble_eq_true rfl) d_B_reaches_40 ⟨Nat.le_refl _, Nat.le_refl _⟩ ?_
              refine lv_istore_n (lv' := [(2, .int (f_B_classUp a)), (3, .int x), (0, .int u), (1, .int t)]) hx hb d_B_reaches_43 rfl hl (by decide) rfl (fun ls hl => ?_)
              refine lv_iinc (v := (x + 1)) (lv' := [(3, .int (x + 1)), (2, .int (f_B_classUp a)), (0, .int u), (1, .int t)]) hx hb d_B_reaches_44 hl (k := 1) rfl (by first | rfl | decide) (by decide) rfl (fun ls hl => ?_)
              refine lv_goto (tgt := 4) hx hb d_B_reaches_47 (by decide) ?_
              exact ih (k + 1) _ _ (by omega) (by rw [ex]; exact nI_1 k) (by have h := hp; rw [g_B_reaches, if_neg c_2, if_neg c_3, if_neg c_5, if_neg c_7] at h; exact h) _ hl
            · skip
              refine lv_iconst (v := 1) hx hb d_B_reaches_37 (by decide) ?_
              exact pm_ret hx hb hr hlk (by decide) (by have h := hp; rw [g_B_reaches, if_neg c_2, if_neg c_3, if_neg c_5, if_pos c_7] at h; exact h) d_B_reaches_38
set_option maxHeartbeats 4000000 in
set_option maxRecDepth 100000 in
theorem c_B_reaches (l : Launch) (u t : Int32) : pmI l y_B_reaches b_B_reaches 4 .boolean 3 61 [.int u, .int t] (fun r => r = f_B_reaches u t) := by
  refine pm_of (by decide) (Nat.le_of_ble_eq_true rfl) ?_
  intro p e s m below meth c ls hx hb hF hr hlk hN hl
  have hl : lv_has ls 4 [(0, .int u), (1, .int t)] := hl
  refine lv_iload_n hx hb d_B_reaches_0 rfl (lv_at hl 0 rfl) ?_
  refine lv_istore_n (lv' := [(2, .int u), (0, .int u), (1, .int t)]) hx hb d_B_reaches_1 rfl hl (by decide) rfl (fun ls hl => ?_)
  refine lv_iconst (v := 0) hx hb d_B_reaches_2 (by decide) ?_
  refine lv_istore_n (lv' := [(3, .int 0), (2, .int u), (0, .int u), (1, .int t)]) hx hb d_B_reaches_3 rfl hl (by decide) rfl (fun ls hl => ?_)
  exact lp_B_reaches (post := fun r => r = f_B_reaches u t) hx hb hF hr hlk hN u t 25 0 0 u rfl rfl rfl ls hl
def f_B_fits (u : Int32) (t : Int32) : Int32 := (if (f_B_isArray u) = 0 then (if t = 9 then (if (f_B_isPrimitive u) = 0 then 1 else 0) else (f_B_reaches u t)) else (if (f_B_isArray t) = 0 then (if t = 9 then (if (f_B_isPrimitive u) = 0 then 1 else 0) else (f_B_reaches u t)) else (if (f_B_isArray (u + (-40))) = 0 then (if (t + (-40)) = 9 then (if (f_B_isPrimitive (u + (-40))) = 0 then 1 else 0) else (f_B_reaches (u + (-40)) (t + (-40)))) else (if (f_B_isArray (t + (-40))) = 0 then (if (t + (-40)) = 9 then (if (f_B_isPrimitive (u + (-40))) = 0 then 1 else 0) else (f_B_reaches (u + (-40)) (t + (-40)))) else (if ((t + (-40)) + (-40)) = 9 then (if (f_B_isPrimitive ((u + (-40)) + (-40))) = 0 then 1 else 0) else (f_B_reaches ((u + (-40)) + (-40)) ((t + (-40)) + (-40))))))))
set_option maxRecDepth 100000 in
theorem z_B_fits (u : Int32) (t : Int32) : f_B_fits u t = 0 ∨ f_B_fits u t = 1 := by
  unfold f_B_fits
  repeat' first | with_reducible refine z_ite ?_ ?_ | with_reducible exact z_B_isArray _ | with_reducible exact z_B_isPrimitive _ | with_reducible exact z_B_reaches _ _ | with_reducible exact Or.inl rfl | with_reducible exact Or.inr rfl
set_option maxRecDepth 100000 in
theorem k_B_fits : ck y_B_fits b_B_fits 5 (some .boolean) 2 (.static y_B_fits) := ⟨tk_of (List.mem_of_getElem? (i := 515) rfl) rfl, tk_of (List.mem_of_getElem? (i := 514) (by decide +kernel)) rfl, tk_of (List.mem_of_getElem? (i := 44) (by decide +kernel)) rfl, by decide +kernel⟩
theorem j_B_85 : Cond.methodLink R_B 85 y_B_reaches ∈ tk := tk_of (List.mem_of_getElem? (i := 517) (by decide +kernel)) rfl
theorem j_B_82 : Cond.methodLink R_B 82 y_B_isPrimitive ∈ tk := tk_of (List.mem_of_getElem? (i := 516) (by decide +kernel)) rfl
set_option maxHeartbeats 4000000 in
set_option maxRecDepth 100000 in
theorem c_B_fits (l : Launch) (u : Int32) (t : Int32) : pmI l y_B_fits b_B_fits 5 .boolean 4 84 [.int u, .int t] (fun r => r = f_B_fits u t) := by
  refine pm_of (by decide) (Nat.le_of_ble_eq_true rfl) ?_
  intro p e s m below meth c ls hx hb hF hr hlk hN hl
  have hl : lv_has ls 5 [(0, .int u), (1, .int t)] := hl
  refine lv_iload_n hx hb d_B_fits_0 rfl (lv_at hl 0 rfl) ?_
  refine lv_istore_n (lv' := [(2, .int u), (0, .int u), (1, .int t)]) hx hb d_B_fits_1 rfl hl (by decide) rfl (fun ls hl => ?_)
  refine lv_iload_n hx hb d_B_fits_2 rfl (lv_at hl 2 rfl) ?_
  refine lv_istore_n (lv' := [(3, .int t), (2, .int u), (0, .int u), (1, .int t)]) hx hb d_B_fits_3 rfl hl (by decide) rfl (fun ls hl => ?_)
  refine lv_iconst (v := 0) hx hb d_B_fits_4 (by decide) ?_
  refine lv_istore (lv' := [(4, .int 0), (3, .int t), (2, .int u), (0, .int u), (1, .int t)]) hx hb d_B_fits_5 hl (by decide) rfl (fun ls hl => ?_)
  refine lv_iload hx hb d_B_fits_7 (lv_at hl 0 rfl) ?_
  refine lv_iconst (v := 2) hx hb d_B_fits_9 (by decide) ?_
  refine lv_icmp_ge (tgt := 39) hx hb d_B_fits_10 (by decide) (fun c_1 => ?_) (fun c_1 => ?_)
  · exact absurd c_1 (by decide)
  · skip
    refine lv_iload_n hx hb d_B_fits_13 rfl (lv_at hl 2 rfl) ?_
    refine pm_callE hF hN (c_B_isArray l u) k_B_isArray j_B_72 ⟨Nat.le_of_ble_eq_true rfl, Nat.le_of_ble_eq_true rfl⟩ rfl hl.1 (Nat.le_of_ble_eq_true rfl) d_B_fits_14 ⟨Nat.le_refl _, Nat.le_refl _⟩ ?_
    refine lv_if_eq (tgt := 39) hx hb d_B_fits_17 (by decide) (fun c_3 => ?_) (fun c_3 => ?_)
    · skip
      refine lv_iload_n hx hb d_B_fits_39 rfl (lv_at hl 1 rfl) ?_
      refine lv_bipush (v := 9) hx hb d_B_fits_40 (by decide) ?_
      refine lv_icmp_ne (tgt := 60) hx hb d_B_fits_42 (by decide) (fun c_4 => ?_) (fun c_4 => ?_)
      · skip
        refine lv_iload_n hx hb d_B_fits_60 rfl (lv_at hl 2 rfl) ?_
        refine lv_iload_n hx hb d_B_fits_61 rfl (lv_at hl 1 rfl) ?_
        refine pm_callE hF hN (c_B_reaches l u t) k_B_reaches j_B_85 ⟨Nat.le_of_ble_eq_true rfl, Nat.le_of_ble_eq_true rfl⟩ rfl hl.1 (Nat.le_of_ble_eq_true rfl) d_B_fits_62 ⟨Nat.le_refl _, Nat.le_refl _⟩ ?_
        exact pm_ret hx hb hr hlk (nar_z (z_B_reaches u t)) (by rw [f_B_fits, if_pos c_3, if_neg c_4]) d_B_fits_65
      · skip
        refine lv_iload_n hx hb d_B_fits_45 rfl (lv_at hl 2 rfl) ?_
        refine pm_callE hF hN (c_B_isPrimitive l u) k_B_isPrimitive j_B_82 ⟨Nat.le_of_ble_eq_true rfl, Nat.le_of_ble_eq_true rfl⟩ rfl hl.1 (Nat.le_of_ble_eq_true rfl) d_B_fits_46 ⟨Nat.le_refl _, Nat.le_refl _⟩ ?_
        refine lv_if_ne (tgt := 56) hx hb d_B_fits_49 (by decide) (fun c_7 => ?_) (fun c_7 => ?_)
        · skip
          refine lv_iconst (v := 0) hx hb d_B_fits_56 (by decide) ?_
          refine lv_goto (tgt := 65) hx hb d_B_fits_57 (by decide) ?_
          exact pm_ret hx hb hr hlk (by decide) (by rw [f_B_fits, if_pos c_3, if_pos c_4, if_neg c_7]) d_B_fits_65
        · skip
          refine lv_iconst (v := 1) hx hb d_B_fits_52 (by decide) ?_
          refine lv_goto (tgt := 65) hx hb d_B_fits_53 (by decide) ?_
          exact pm_ret hx hb hr hlk (by decide) (by rw [f_B_fits, if_pos c_3, if_pos c_4, if_pos c_7]) d_B_fits_65
    · skip
      refine lv_iload_n hx hb d_B_fits_20 rfl (lv_at hl 1 rfl) ?_
      refine pm_callE hF hN (c_B_isArray l t) k_B_isArray j_B_72 ⟨Nat.le_of_ble_eq_true rfl, Nat.le_of_ble_eq_true rfl⟩ rfl hl.1 (Nat.le_of_ble_eq_true rfl) d_B_fits_21 ⟨Nat.le_refl _, Nat.le_refl _⟩ ?_
      refine lv_if_eq (tgt := 39) hx hb d_B_fits_24 (by decide) (fun c_9 => ?_) (fun c_9 => ?_)
      · skip
        refine lv_iload_n hx hb d_B_fits_39 rfl (lv_at hl 1 rfl) ?_
        refine lv_bipush (v := 9) hx hb d_B_fits_40 (by decide) ?_
        refine lv_icmp_ne (tgt := 60) hx hb d_B_fits_42 (by decide) (fun c_10 => ?_) (fun c_10 => ?_)
        · skip
          refine lv_iload_n hx hb d_B_fits_60 rfl (lv_at hl 2 rfl) ?_
          refine lv_iload_n hx hb d_B_fits_61 rfl (lv_at hl 1 rfl) ?_
          refine pm_callE hF hN (c_B_reaches l u t) k_B_reaches j_B_85 ⟨Nat.le_of_ble_eq_true rfl, Nat.le_of_ble_eq_true rfl⟩ rfl hl.1 (Nat.le_of_ble_eq_true rfl) d_B_fits_62 ⟨Nat.le_refl _, Nat.le_refl _⟩ ?_
          exact pm_ret hx hb hr hlk (nar_z (z_B_reaches u t)) (by rw [f_B_fits, if_neg c_3, if_pos c_9, if_neg c_10]) d_B_fits_65
        · skip
          refine lv_iload_n hx hb d_B_fits_45 rfl (lv_at hl 2 rfl) ?_
          refine pm_callE hF hN (c_B_isPrimitive l u) k_B_isPrimitive j_B_82 ⟨Nat.le_of_ble_eq_true rfl, Nat.le_of_ble_eq_true rfl⟩ rfl hl.1 (Nat.le_of_ble_eq_true rfl) d_B_fits_46 ⟨Nat.le_refl _, Nat.le_refl _⟩ ?_
          refine lv_if_ne (tgt := 56) hx hb d_B_fits_49 (by decide) (fun c_13 => ?_) (fun c_13 => ?_)
          · skip
            refine lv_iconst (v := 0) hx hb d_B_fits_56 (by decide) ?_
            refine lv_goto (tgt := 65) hx hb d_B_fits_57 (by decide) ?_
            exact pm_ret hx hb hr hlk (by decide) (by rw [f_B_fits, if_neg c_3, if_pos c_9, if_pos c_10, if_neg c_13]) d_B_fits_65
          · skip
            refine lv_iconst (v := 1) hx hb d_B_fits_52 (by decide) ?_
            refine lv_goto (tgt := 65) hx hb d_B_fits_53 (by decide) ?_
            exact pm_ret hx hb hr hlk (by decide) (by rw [f_B_fits, if_neg c_3, if_pos c_9, if_pos c_10, if_pos c_13]) d_B_fits_65
      · skip
        refine lv_iinc (v := (u + (-40))) (lv' := [(2, .int (u + (-40))), (4, .int 0), (3, .int t), (0, .int u), (1, .int t)]) hx hb d_B_fits_27 hl (k := 2) rfl (by first | rfl | decide) (by decide) rfl (fun ls hl => ?_)
        refine lv_iinc (v := (t + (-40))) (lv' := [(3, .int (t + (-40))), (2, .int (u + (-40))), (4, .int 0), (0, .int u), (1, .int t)]) hx hb d_B_fits_30 hl (k := 2) rfl (by first | rfl | decide) (by decide) rfl (fun ls hl => ?_)
        refine lv_iinc (v := 1) (lv' := [(4, .int 1), (3, .int (t + (-40))), (2, .int (u + (-40))), (0, .int u), (1, .int t)]) hx hb d_B_fits_33 hl (k := 2) rfl (by first | rfl | decide) (by decide) rfl (fun ls hl => ?_)
        refine lv_goto (tgt := 7) hx hb d_B_fits_36 (by decide) ?_
        refine lv_iload hx hb d_B_fits_7 (lv_at hl 0 rfl) ?_
        refine lv_iconst (v := 2) hx hb d_B_fits_9 (by decide) ?_
        refine lv_icmp_ge (tgt := 39) hx hb d_B_fits_10 (by decide) (fun c_14 => ?_) (fun c_14 => ?_)
        · exact absurd c_14 (by decide)
        · skip
          refine lv_iload_n hx hb d_B_fits_13 rfl (lv_at hl 2 rfl) ?_
          refine pm_callE hF hN (c_B_isArray l (u + (-40))) k_B_isArray j_B_72 ⟨Nat.le_of_ble_eq_true rfl, Nat.le_of_ble_eq_true rfl⟩ rfl hl.1 (Nat.le_of_ble_eq_true rfl) d_B_fits_14 ⟨Nat.le_refl _, Nat.le_refl _⟩ ?_
          refine lv_if_eq (tgt := 39) hx hb d_B_fits_17 (by decide) (fun c_16 => ?_) (fun c_16 => ?_)
          · skip
            refine lv_iload_n hx hb d_B_fits_39 rfl (lv_at hl 1 rfl) ?_
            refine lv_bipush (v := 9) hx hb d_B_fits_40 (by decide) ?_
            refine lv_icmp_ne (tgt := 60) hx hb d_B_fits_42 (by decide) (fun c_17 => ?_) (fun c_17 => ?_)
            · skip
              refine lv_iload_n hx hb d_B_fits_60 rfl (lv_at hl 2 rfl) ?_
              refine lv_iload_n hx hb d_B_fits_61 rfl (lv_at hl 1 rfl) ?_
              refine pm_callE hF hN (c_B_reaches l (u + (-40)) (t + (-40))) k_B_reaches j_B_85 ⟨Nat.le_of_ble_eq_true rfl, Nat.le_of_ble_eq_true rfl⟩ rfl hl.1 (Nat.le_of_ble_eq_true rfl) d_B_fits_62 ⟨Nat.le_refl _, Nat.le_refl _⟩ ?_
              exact pm_ret hx hb hr hlk (nar_z (z_B_reaches (u + (-40)) (t + (-40)))) (by rw [f_B_fits, if_neg c_3, if_neg c_9, if_pos c_16, if_neg c_17]) d_B_fits_65
            · skip
              refine lv_iload_n hx hb d_B_fits_45 rfl (lv_at hl 2 rfl) ?_
              refine pm_callE hF hN (c_B_isPrimitive l (u + (-40))) k_B_isPrimitive j_B_82 ⟨Nat.le_of_ble_eq_true rfl, Nat.le_of_ble_eq_true rfl⟩ rfl hl.1 (Nat.le_of_ble_eq_true rfl) d_B_fits_46 ⟨Nat.le_refl _, Nat.le_refl _⟩ ?_
              refine lv_if_ne (tgt := 56) hx hb d_B_fits_49 (by decide) (fun c_20 => ?_) (fun c_20 => ?_)
              · skip
                refine lv_iconst (v := 0) hx hb d_B_fits_56 (by decide) ?_
                refine lv_goto (tgt := 65) hx hb d_B_fits_57 (by decide) ?_
                exact pm_ret hx hb hr hlk (by decide) (by rw [f_B_fits, if_neg c_3, if_neg c_9, if_pos c_16, if_pos c_17, if_neg c_20]) d_B_fits_65
              · skip
                refine lv_iconst (v := 1) hx hb d_B_fits_52 (by decide) ?_
                refine lv_goto (tgt := 65) hx hb d_B_fits_53 (by decide) ?_
                exact pm_ret hx hb hr hlk (by decide) (by rw [f_B_fits, if_neg c_3, if_neg c_9, if_pos c_16, if_pos c_17, if_pos c_20]) d_B_fits_65
          · skip
            refine lv_iload_n hx hb d_B_fits_20 rfl (lv_at hl 1 rfl) ?_
            refine pm_callE hF hN (c_B_isArray l (t + (-40))) k_B_isArray j_B_72 ⟨Nat.le_of_ble_eq_true rfl, Nat.le_of_ble_eq_true rfl⟩ rfl hl.1 (Nat.le_of_ble_eq_true rfl) d_B_fits_21 ⟨Nat.le_refl _, Nat.le_refl _⟩ ?_
            refine lv_if_eq (tgt := 39) hx hb d_B_fits_24 (by decide) (fun c_22 => ?_) (fun c_22 => ?_)
            · skip
              refine lv_iload_n hx hb d_B_fits_39 rfl (lv_at hl 1 rfl) ?_
              refine lv_bipush (v := 9) hx hb d_B_fits_40 (by decide) ?_
              refine lv_icmp_ne (tgt := 60) hx hb d_B_fits_42 (by decide) (fun c_23 => ?_) (fun c_23 => ?_)
              · skip
                refine lv_iload_n hx hb d_B_fits_60 rfl (lv_at hl 2 rfl) ?_
                refine lv_iload_n hx hb d_B_fits_61 rfl (lv_at hl 1 rfl) ?_
                refine pm_callE hF hN (c_B_reaches l (u + (-40)) (t + (-40))) k_B_reaches j_B_85 ⟨Nat.le_of_ble_eq_true rfl, Nat.le_of_ble_eq_true rfl⟩ rfl hl.1 (Nat.le_of_ble_eq_true rfl) d_B_fits_62 ⟨Nat.le_refl _, Nat.le_refl _⟩ ?_
                exact pm_ret hx hb hr hlk (nar_z (z_B_reaches (u + (-40)) (t + (-40)))) (by rw [f_B_fits, if_neg c_3, if_neg c_9, if_neg c_16, if_pos c_22, if_neg c_23]) d_B_fits_65
              · skip
                refine lv_iload_n hx hb d_B_fits_45 rfl (lv_at hl 2 rfl) ?_
                refine pm_callE hF hN (c_B_isPrimitive l (u + (-40))) k_B_isPrimitive j_B_82 ⟨Nat.le_of_ble_eq_true rfl, Nat.le_of_ble_eq_true rfl⟩ rfl hl.1 (Nat.le_of_ble_eq_true rfl) d_B_fits_46 ⟨Nat.le_refl _, Nat.le_refl _⟩ ?_
                refine lv_if_ne (tgt := 56) hx hb d_B_fits_49 (by decide) (fun c_26 => ?_) (fun c_26 => ?_)
                · skip
                  refine lv_iconst (v := 0) hx hb d_B_fits_56 (by decide) ?_
                  refine lv_goto (tgt := 65) hx hb d_B_fits_57 (by decide) ?_
                  exact pm_ret hx hb hr hlk (by decide) (by rw [f_B_fits, if_neg c_3, if_neg c_9, if_neg c_16, if_pos c_22, if_pos c_23, if_neg c_26]) d_B_fits_65
                · skip
                  refine lv_iconst (v := 1) hx hb d_B_fits_52 (by decide) ?_
                  refine lv_goto (tgt := 65) hx hb d_B_fits_53 (by decide) ?_
                  exact pm_ret hx hb hr hlk (by decide) (by rw [f_B_fits, if_neg c_3, if_neg c_9, if_neg c_16, if_pos c_22, if_pos c_23, if_pos c_26]) d_B_fits_65
            · skip
              refine lv_iinc (v := ((u + (-40)) + (-40))) (lv' := [(2, .int ((u + (-40)) + (-40))), (4, .int 1), (3, .int (t + (-40))), (0, .int u), (1, .int t)]) hx hb d_B_fits_27 hl (k := 2) rfl (by first | rfl | decide) (by decide) rfl (fun ls hl => ?_)
              refine lv_iinc (v := ((t + (-40)) + (-40))) (lv' := [(3, .int ((t + (-40)) + (-40))), (2, .int ((u + (-40)) + (-40))), (4, .int 1), (0, .int u), (1, .int t)]) hx hb d_B_fits_30 hl (k := 2) rfl (by first | rfl | decide) (by decide) rfl (fun ls hl => ?_)
              refine lv_iinc (v := 2) (lv' := [(4, .int 2), (3, .int ((t + (-40)) + (-40))), (2, .int ((u + (-40)) + (-40))), (0, .int u), (1, .int t)]) hx hb d_B_fits_33 hl (k := 2) rfl (by first | rfl | decide) (by decide) rfl (fun ls hl => ?_)
              refine lv_goto (tgt := 7) hx hb d_B_fits_36 (by decide) ?_
              refine lv_iload hx hb d_B_fits_7 (lv_at hl 0 rfl) ?_
              refine lv_iconst (v := 2) hx hb d_B_fits_9 (by decide) ?_
              refine lv_icmp_ge (tgt := 39) hx hb d_B_fits_10 (by decide) (fun c_27 => ?_) (fun c_27 => ?_)
              · skip
                refine lv_iload_n hx hb d_B_fits_39 rfl (lv_at hl 1 rfl) ?_
                refine lv_bipush (v := 9) hx hb d_B_fits_40 (by decide) ?_
                refine lv_icmp_ne (tgt := 60) hx hb d_B_fits_42 (by decide) (fun c_28 => ?_) (fun c_28 => ?_)
                · skip
                  refine lv_iload_n hx hb d_B_fits_60 rfl (lv_at hl 2 rfl) ?_
                  refine lv_iload_n hx hb d_B_fits_61 rfl (lv_at hl 1 rfl) ?_
                  refine pm_callE hF hN (c_B_reaches l ((u + (-40)) + (-40)) ((t + (-40)) + (-40))) k_B_reaches j_B_85 ⟨Nat.le_of_ble_eq_true rfl, Nat.le_of_ble_eq_true rfl⟩ rfl hl.1 (Nat.le_of_ble_eq_true rfl) d_B_fits_62 ⟨Nat.le_refl _, Nat.le_refl _⟩ ?_
                  exact pm_ret hx hb hr hlk (nar_z (z_B_reaches ((u + (-40)) + (-40)) ((t + (-40)) + (-40)))) (by rw [f_B_fits, if_neg c_3, if_neg c_9, if_neg c_16, if_neg c_22, if_neg c_28]) d_B_fits_65
                · skip
                  refine lv_iload_n hx hb d_B_fits_45 rfl (lv_at hl 2 rfl) ?_
                  refine pm_callE hF hN (c_B_isPrimitive l ((u + (-40)) + (-40))) k_B_isPrimitive j_B_82 ⟨Nat.le_of_ble_eq_true rfl, Nat.le_of_ble_eq_true rfl⟩ rfl hl.1 (Nat.le_of_ble_eq_true rfl) d_B_fits_46 ⟨Nat.le_refl _, Nat.le_refl _⟩ ?_
                  refine lv_if_ne (tgt := 56) hx hb d_B_fits_49 (by decide) (fun c_31 => ?_) (fun c_31 => ?_)
                  · skip
                    refine lv_iconst (v := 0) hx hb d_B_fits_56 (by decide) ?_
                    refine lv_goto (tgt := 65) hx hb d_B_fits_57 (by decide) ?_
                    exact pm_ret hx hb hr hlk (by decide) (by rw [f_B_fits, if_neg c_3, if_neg c_9, if_neg c_16, if_neg c_22, if_pos c_28, if_neg c_31]) d_B_fits_65
                  · skip
                    refine lv_iconst (v := 1) hx hb d_B_fits_52 (by decide) ?_
                    refine lv_goto (tgt := 65) hx hb d_B_fits_53 (by decide) ?_
                    exact pm_ret hx hb hr hlk (by decide) (by rw [f_B_fits, if_neg c_3, if_neg c_9, if_neg c_16, if_neg c_22, if_pos c_28, if_pos c_31]) d_B_fits_65
              · exact absurd c_27 (by decide)
end
section
def f_P_isSlot (t : Int32) : Int32 := (if t < 0 then 0 else (if 8 ≤ t then 0 else 1))
set_option maxRecDepth 100000 in
theorem z_P_isSlot (t : Int32) : f_P_isSlot t = 0 ∨ f_P_isSlot t = 1 := by
  unfold f_P_isSlot
  repeat' first | with_reducible refine z_ite ?_ ?_ | with_reducible exact Or.inl rfl | with_reducible exact Or.inr rfl
set_option maxRecDepth 100000 in
theorem k_P_isSlot : ck y_P_isSlot b_P_isSlot 1 (some .boolean) 1 (.static y_P_isSlot) := ⟨tk_of (List.mem_of_getElem? (i := 637) rfl) rfl, tk_of (List.mem_of_getElem? (i := 636) (by decide +kernel)) rfl, tk_of (List.mem_of_getElem? (i := 36) (by decide +kernel)) rfl, by decide +kernel⟩
set_option maxHeartbeats 4000000 in
set_option maxRecDepth 100000 in
theorem c_P_isSlot (l : Launch) (t : Int32) : pmI l y_P_isSlot b_P_isSlot 1 .boolean 0 0 [.int t] (fun r => r = f_P_isSlot t) := by
  refine pm_of (by decide) (Nat.le_of_ble_eq_true rfl) ?_
  intro p e s m below meth c ls hx hb hF hr hlk hN hl
  have hl : lv_has ls 1 [(0, .int t)] := hl
  refine lv_iload_n hx hb d_P_isSlot_0 rfl (lv_at hl 0 rfl) ?_
  refine lv_if_lt (tgt := 14) hx hb d_P_isSlot_1 (by decide) (fun c_1 => ?_) (fun c_1 => ?_)
  · skip
    refine lv_iconst (v := 0) hx hb d_P_isSlot_14 (by decide) ?_
    exact pm_ret hx hb hr hlk (by decide) (by rw [f_P_isSlot, if_pos c_1]) d_P_isSlot_15
  · skip
    refine lv_iload_n hx hb d_P_isSlot_4 rfl (lv_at hl 0 rfl) ?_
    refine lv_bipush (v := 8) hx hb d_P_isSlot_5 (by decide) ?_
    refine lv_icmp_ge (tgt := 14) hx hb d_P_isSlot_7 (by decide) (fun c_2 => ?_) (fun c_2 => ?_)
    · skip
      refine lv_iconst (v := 0) hx hb d_P_isSlot_14 (by decide) ?_
      exact pm_ret hx hb hr hlk (by decide) (by rw [f_P_isSlot, if_neg c_1, if_pos c_2]) d_P_isSlot_15
    · skip
      refine lv_iconst (v := 1) hx hb d_P_isSlot_10 (by decide) ?_
      refine lv_goto (tgt := 15) hx hb d_P_isSlot_11 (by decide) ?_
      exact pm_ret hx hb hr hlk (by decide) (by rw [f_P_isSlot, if_neg c_1, if_neg c_2]) d_P_isSlot_15
def f_P_isAlwaysAlike (t : Int32) : Int32 := (if t = (-2) then 1 else (if t = 11 then 1 else (if t = 14 then 1 else (if t = 16 then 1 else (if t = 17 then 1 else (if t = 23 then 1 else (if t = 24 then 1 else 0)))))))
set_option maxRecDepth 100000 in
theorem z_P_isAlwaysAlike (t : Int32) : f_P_isAlwaysAlike t = 0 ∨ f_P_isAlwaysAlike t = 1 := by
  unfold f_P_isAlwaysAlike
  repeat' first | with_reducible refine z_ite ?_ ?_ | with_reducible exact Or.inl rfl | with_reducible exact Or.inr rfl
set_option maxRecDepth 100000 in
theorem k_P_isAlwaysAlike : ck y_P_isAlwaysAlike b_P_isAlwaysAlike 1 (some .boolean) 1 (.static y_P_isAlwaysAlike) := ⟨tk_of (List.mem_of_getElem? (i := 663) rfl) rfl, tk_of (List.mem_of_getElem? (i := 662) (by decide +kernel)) rfl, tk_of (List.mem_of_getElem? (i := 36) (by decide +kernel)) rfl, by decide +kernel⟩
set_option maxHeartbeats 4000000 in
set_option maxRecDepth 100000 in
theorem c_P_isAlwaysAlike (l : Launch) (t : Int32) : pmI l y_P_isAlwaysAlike b_P_isAlwaysAlike 1 .boolean 0 0 [.int t] (fun r => r = f_P_isAlwaysAlike t) := by
  refine pm_of (by decide) (Nat.le_of_ble_eq_true rfl) ?_
  intro p e s m below meth c ls hx hb hF hr hlk hN hl
  have hl : lv_has ls 1 [(0, .int t)] := hl
  refine lv_iload_n hx hb d_P_isAlwaysAlike_0 rfl (lv_at hl 0 rfl) ?_
  by_cases c_1 : t = (-2)
  · refine lv_lookup (tgt := 68) (off := 67) hx hb d_P_isAlwaysAlike_1 (by decide) (by rw [c_1]; decide) (by decide) ?_
    refine lv_iconst (v := 1) hx hb d_P_isAlwaysAlike_68 (by decide) ?_
    exact pm_ret hx hb hr hlk (by decide) (by rw [f_P_isAlwaysAlike, if_pos c_1]) d_P_isAlwaysAlike_69
  by_cases c_2 : t = 11
  · refine lv_lookup (tgt := 68) (off := 67) hx hb d_P_isAlwaysAlike_1 (by decide) (by rw [c_2]; decide) (by decide) ?_
    refine lv_iconst (v := 1) hx hb d_P_isAlwaysAlike_68 (by decide) ?_
    exact pm_ret hx hb hr hlk (by decide) (by rw [f_P_isAlwaysAlike, if_neg c_1, if_pos c_2]) d_P_isAlwaysAlike_69
  by_cases c_3 : t = 14
  · refine lv_lookup (tgt := 68) (off := 67) hx hb d_P_isAlwaysAlike_1 (by decide) (by rw [c_3]; decide) (by decide) ?_
    refine lv_iconst (v := 1) hx hb d_P_isAlwaysAlike_68 (by decide) ?_
    exact pm_ret hx hb hr hlk (by decide) (by rw [f_P_isAlwaysAlike, if_neg c_1, if_neg c_2, if_pos c_3]) d_P_isAlwaysAlike_69
  by_cases c_4 : t = 16
  · refine lv_lookup (tgt := 68) (off := 67) hx hb d_P_isAlwaysAlike_1 (by decide) (by rw [c_4]; decide) (by decide) ?_
    refine lv_iconst (v := 1) hx hb d_P_isAlwaysAlike_68 (by decide) ?_
    exact pm_ret hx hb hr hlk (by decide) (by rw [f_P_isAlwaysAlike, if_neg c_1, if_neg c_2, if_neg c_3, if_pos c_4]) d_P_isAlwaysAlike_69
  by_cases c_5 : t = 17
  · refine lv_lookup (tgt := 68) (off := 67) hx hb d_P_isAlwaysAlike_1 (by decide) (by rw [c_5]; decide) (by decide) ?_
    refine lv_iconst (v := 1) hx hb d_P_isAlwaysAlike_68 (by decide) ?_
    exact pm_ret hx hb hr hlk (by decide) (by rw [f_P_isAlwaysAlike, if_neg c_1, if_neg c_2, if_neg c_3, if_neg c_4, if_pos c_5]) d_P_isAlwaysAlike_69
  by_cases c_6 : t = 23
  · refine lv_lookup (tgt := 68) (off := 67) hx hb d_P_isAlwaysAlike_1 (by decide) (by rw [c_6]; decide) (by decide) ?_
    refine lv_iconst (v := 1) hx hb d_P_isAlwaysAlike_68 (by decide) ?_
    exact pm_ret hx hb hr hlk (by decide) (by rw [f_P_isAlwaysAlike, if_neg c_1, if_neg c_2, if_neg c_3, if_neg c_4, if_neg c_5, if_pos c_6]) d_P_isAlwaysAlike_69
  by_cases c_7 : t = 24
  · refine lv_lookup (tgt := 68) (off := 67) hx hb d_P_isAlwaysAlike_1 (by decide) (by rw [c_7]; decide) (by decide) ?_
    refine lv_iconst (v := 1) hx hb d_P_isAlwaysAlike_68 (by decide) ?_
    exact pm_ret hx hb hr hlk (by decide) (by rw [f_P_isAlwaysAlike, if_neg c_1, if_neg c_2, if_neg c_3, if_neg c_4, if_neg c_5, if_neg c_6, if_pos c_7]) d_P_isAlwaysAlike_69
  refine lv_lookup (tgt := 70) (off := 69) hx hb d_P_isAlwaysAlike_1 (by decide) ((lv_osw c_1 (by decide)).trans ((lv_osw c_2 (by decide)).trans ((lv_osw c_3 (by decide)).trans ((lv_osw c_4 (by decide)).trans ((lv_osw c_5 (by decide)).trans ((lv_osw c_6 (by decide)).trans ((lv_osw c_7 (by decide)).trans (rfl)))))))) (by decide) ?_
  refine lv_iconst (v := 0) hx hb d_P_isAlwaysAlike_70 (by decide) ?_
  exact pm_ret hx hb hr hlk (by decide) (by rw [f_P_isAlwaysAlike, if_neg c_1, if_neg c_2, if_neg c_3, if_neg c_4, if_neg c_5, if_neg c_6, if_neg c_7]) d_P_isAlwaysAlike_71
def f_P_flag (t : Int32) (k : Int32) : Int32 := (if (f_B_isType t) = 0 then 0 else (if k = 0 then (f_B_isArray t) else (if k = 1 then (f_B_isPrimitive t) else (if k = 2 then (f_B_isInterface t) else (if k = 3 then (if t = 20 then 1 else 0) else (if k = 4 then (if t = 16 then 1 else 0) else (if k = 5 then (if t = 14 then 1 else 0) else (if k = 6 then (if t = 13 then 1 else (if t = 16 then 1 else 0)) else (if k = 7 then (f_B_isNameless t) else (if k = 8 then (if t = 23 then 1 else 0) else (if k = 9 then (f_B_isMember t) else (if k = 10 then (f_B_isInMethod t) else 0))))))))))))
set_option maxRecDepth 100000 in
theorem z_P_flag (t : Int32) (k : Int32) : f_P_flag t k = 0 ∨ f_P_flag t k = 1 := by
  unfold f_P_flag
  repeat' first | with_reducible refine z_ite ?_ ?_ | with_reducible exact z_B_isArray _ | with_reducible exact z_B_isInMethod _ | with_reducible exact z_B_isInterface _ | with_reducible exact z_B_isMember _ | with_reducible exact z_B_isNameless _ | with_reducible exact z_B_isPrimitive _ | with_reducible exact z_B_isType _ | with_reducible exact Or.inl rfl | with_reducible exact Or.inr rfl
set_option maxRecDepth 100000 in
theorem k_P_flag : ck y_P_flag b_P_flag 3 (some .boolean) 2 (.instanceMethod y_P_flag) := ⟨tk_of (List.mem_of_getElem? (i := 457) rfl) rfl, tk_of (List.mem_of_getElem? (i := 455) (by decide +kernel)) rfl, tk_of (List.mem_of_getElem? (i := 36) (by decide +kernel)) rfl, by decide +kernel⟩
theorem j_P_35 : Cond.methodLinkNest R_P 35 y_B_isType R_P ∈ nw_l := nw_of (List.mem_of_getElem? (i := 133) (by decide +kernel)) rfl
theorem j_P_41 : Cond.methodLinkNest R_P 41 y_B_isArray R_P ∈ nw_l := nw_of (List.mem_of_getElem? (i := 458) (by decide +kernel)) rfl
theorem j_P_44 : Cond.methodLinkNest R_P 44 y_B_isPrimitive R_P ∈ nw_l := nw_of (List.mem_of_getElem? (i := 459) (by decide +kernel)) rfl
theorem j_P_47 : Cond.methodLinkNest R_P 47 y_B_isInterface R_P ∈ nw_l := nw_of (List.mem_of_getElem? (i := 460) (by decide +kernel)) rfl
theorem j_P_50 : Cond.methodLinkNest R_P 50 y_B_isNameless R_P ∈ nw_l := nw_of (List.mem_of_getElem? (i := 461) (by decide +kernel)) rfl
theorem j_P_53 : Cond.methodLinkNest R_P 53 y_B_isMember R_P ∈ nw_l := nw_of (List.mem_of_getElem? (i := 462) (by decide +kernel)) rfl
theorem j_P_56 : Cond.methodLinkNest R_P 56 y_B_isInMethod R_P ∈ nw_l := nw_of (List.mem_of_getElem? (i := 465) (by decide +kernel)) rfl
set_option maxHeartbeats 4000000 in
set_option maxRecDepth 100000 in
theorem c_P_flag (l : Launch) (h0 : Nat) (t : Int32) (k : Int32) : pmI l y_P_flag b_P_flag 3 .boolean 2 40 [.ref h0, .int t, .int k] (fun r => r = f_P_flag t k) := by
  refine pm_of (by decide) (Nat.le_of_ble_eq_true rfl) ?_
  intro p e s m below meth c ls hx hb hF hr hlk hN hl
  have hl : lv_has ls 3 [(0, .ref h0), (1, .int t), (2, .int k)] := hl
  refine lv_iload_n hx hb d_P_flag_0 rfl (lv_at hl 1 rfl) ?_
  refine pm_callNE hF hN (c_B_isType l t) k_B_isType j_P_35 ⟨Nat.le_of_ble_eq_true rfl, Nat.le_of_ble_eq_true rfl⟩ rfl hl.1 (Nat.le_of_ble_eq_true rfl) d_P_flag_1 ⟨Nat.le_refl _, Nat.le_refl _⟩ ?_
  refine lv_if_ne (tgt := 9) hx hb d_P_flag_4 (by decide) (fun c_2 => ?_) (fun c_2 => ?_)
  · skip
    refine lv_iload_n hx hb d_P_flag_9 rfl (lv_at hl 2 rfl) ?_
    by_cases c_3 : k = 0
    · refine lv_tableIn (tgt := 68) (off := 58) hx hb d_P_flag_10 (by rw [c_3]; decide) (by rw [c_3]; decide) (by rw [c_3]; decide) (by decide) ?_
      refine lv_iload_n hx hb d_P_flag_68 rfl (lv_at hl 1 rfl) ?_
      refine pm_callNE hF hN (c_B_isArray l t) k_B_isArray j_P_41 ⟨Nat.le_of_ble_eq_true rfl, Nat.le_of_ble_eq_true rfl⟩ rfl hl.1 (Nat.le_of_ble_eq_true rfl) d_P_flag_69 ⟨Nat.le_refl _, Nat.le_refl _⟩ ?_
      exact pm_ret hx hb hr hlk (nar_z (z_B_isArray t)) (by rw [f_P_flag, if_neg c_2, if_pos c_3]) d_P_flag_72
    by_cases c_5 : k = 1
    · refine lv_tableIn (tgt := 73) (off := 63) hx hb d_P_flag_10 (by rw [c_5]; decide) (by rw [c_5]; decide) (by rw [c_5]; decide) (by decide) ?_
      refine lv_iload_n hx hb d_P_flag_73 rfl (lv_at hl 1 rfl) ?_
      refine pm_callNE hF hN (c_B_isPrimitive l t) k_B_isPrimitive j_P_44 ⟨Nat.le_of_ble_eq_true rfl, Nat.le_of_ble_eq_true rfl⟩ rfl hl.1 (Nat.le_of_ble_eq_true rfl) d_P_flag_74 ⟨Nat.le_refl _, Nat.le_refl _⟩ ?_
      exact pm_ret hx hb hr hlk (nar_z (z_B_isPrimitive t)) (by rw [f_P_flag, if_neg c_2, if_neg c_3, if_pos c_5]) d_P_flag_77
    by_cases c_7 : k = 2
    · refine lv_tableIn (tgt := 78) (off := 68) hx hb d_P_flag_10 (by rw [c_7]; decide) (by rw [c_7]; decide) (by rw [c_7]; decide) (by decide) ?_
      refine lv_iload_n hx hb d_P_flag_78 rfl (lv_at hl 1 rfl) ?_
      refine pm_callNE hF hN (c_B_isInterface l t) k_B_isInterface j_P_47 ⟨Nat.le_of_ble_eq_true rfl, Nat.le_of_ble_eq_true rfl⟩ rfl hl.1 (Nat.le_of_ble_eq_true rfl) d_P_flag_79 ⟨Nat.le_refl _, Nat.le_refl _⟩ ?_
      exact pm_ret hx hb hr hlk (nar_z (z_B_isInterface t)) (by rw [f_P_flag, if_neg c_2, if_neg c_3, if_neg c_5, if_pos c_7]) d_P_flag_82
    by_cases c_9 : k = 3
    · refine lv_tableIn (tgt := 83) (off := 73) hx hb d_P_flag_10 (by rw [c_9]; decide) (by rw [c_9]; decide) (by rw [c_9]; decide) (by decide) ?_
      refine lv_iload_n hx hb d_P_flag_83 rfl (lv_at hl 1 rfl) ?_
      refine lv_bipush (v := 20) hx hb d_P_flag_84 (by decide) ?_
      refine lv_icmp_ne (tgt := 93) hx hb d_P_flag_86 (by decide) (fun c_10 => ?_) (fun c_10 => ?_)
      · skip
        refine lv_iconst (v := 0) hx hb d_P_flag_93 (by decide) ?_
        exact pm_ret hx hb hr hlk (by decide) (by rw [f_P_flag, if_neg c_2, if_neg c_3, if_neg c_5, if_neg c_7, if_pos c_9, if_neg c_10]) d_P_flag_94
      · skip
        refine lv_iconst (v := 1) hx hb d_P_flag_89 (by decide) ?_
        refine lv_goto (tgt := 94) hx hb d_P_flag_90 (by decide) ?_
        exact pm_ret hx hb hr hlk (by decide) (by rw [f_P_flag, if_neg c_2, if_neg c_3, if_neg c_5, if_neg c_7, if_pos c_9, if_pos c_10]) d_P_flag_94
    by_cases c_11 : k = 4
    · refine lv_tableIn (tgt := 95) (off := 85) hx hb d_P_flag_10 (by rw [c_11]; decide) (by rw [c_11]; decide) (by rw [c_11]; decide) (by decide) ?_
      refine lv_iload_n hx hb d_P_flag_95 rfl (lv_at hl 1 rfl) ?_
      refine lv_bipush (v := 16) hx hb d_P_flag_96 (by decide) ?_
      refine lv_icmp_ne (tgt := 105) hx hb d_P_flag_98 (by decide) (fun c_12 => ?_) (fun c_12 => ?_)
      · skip
        refine lv_iconst (v := 0) hx hb d_P_flag_105 (by decide) ?_
        exact pm_ret hx hb hr hlk (by decide) (by rw [f_P_flag, if_neg c_2, if_neg c_3, if_neg c_5, if_neg c_7, if_neg c_9, if_pos c_11, if_neg c_12]) d_P_flag_106
      · skip
        refine lv_iconst (v := 1) hx hb d_P_flag_101 (by decide) ?_
        refine lv_goto (tgt := 106) hx hb d_P_flag_102 (by decide) ?_
        exact pm_ret hx hb hr hlk (by decide) (by rw [f_P_flag, if_neg c_2, if_neg c_3, if_neg c_5, if_neg c_7, if_neg c_9, if_pos c_11, if_pos c_12]) d_P_flag_106
    by_cases c_13 : k = 5
    · refine lv_tableIn (tgt := 107) (off := 97) hx hb d_P_flag_10 (by rw [c_13]; decide) (by rw [c_13]; decide) (by rw [c_13]; decide) (by decide) ?_
      refine lv_iload_n hx hb d_P_flag_107 rfl (lv_at hl 1 rfl) ?_
      refine lv_bipush (v := 14) hx hb d_P_flag_108 (by decide) ?_
      refine lv_icmp_ne (tgt := 117) hx hb d_P_flag_110 (by decide) (fun c_14 => ?_) (fun c_14 => ?_)
      · skip
        refine lv_iconst (v := 0) hx hb d_P_flag_117 (by decide) ?_
        exact pm_ret hx hb hr hlk (by decide) (by rw [f_P_flag, if_neg c_2, if_neg c_3, if_neg c_5, if_neg c_7, if_neg c_9, if_neg c_11, if_pos c_13, if_neg c_14]) d_P_flag_118
      · skip
        refine lv_iconst (v := 1) hx hb d_P_flag_113 (by decide) ?_
        refine lv_goto (tgt := 118) hx hb d_P_flag_114 (by decide) ?_
        exact pm_ret hx hb hr hlk (by decide) (by rw [f_P_flag, if_neg c_2, if_neg c_3, if_neg c_5, if_neg c_7, if_neg c_9, if_neg c_11, if_pos c_13, if_pos c_14]) d_P_flag_118
    by_cases c_15 : k = 6
    · refine lv_tableIn (tgt := 119) (off := 109) hx hb d_P_flag_10 (by rw [c_15]; decide) (by rw [c_15]; decide) (by rw [c_15]; decide) (by decide) ?_
      refine lv_iload_n hx hb d_P_flag_119 rfl (lv_at hl 1 rfl) ?_
      refine lv_bipush (v := 13) hx hb d_P_flag_120 (by decide) ?_
      refine lv_icmp_eq (tgt := 131) hx hb d_P_flag_122 (by decide) (fun c_16 => ?_) (fun c_16 => ?_)
      · skip
        refine lv_iconst (v := 1) hx hb d_P_flag_131 (by decide) ?_
        refine lv_goto (tgt := 136) hx hb d_P_flag_132 (by decide) ?_
        exact pm_ret hx hb hr hlk (by decide) (by rw [f_P_flag, if_neg c_2, if_neg c_3, if_neg c_5, if_neg c_7, if_neg c_9, if_neg c_11, if_neg c_13, if_pos c_15, if_pos c_16]) d_P_flag_136
      · skip
        refine lv_iload_n hx hb d_P_flag_125 rfl (lv_at hl 1 rfl) ?_
        refine lv_bipush (v := 16) hx hb d_P_flag_126 (by decide) ?_
        refine lv_icmp_ne (tgt := 135) hx hb d_P_flag_128 (by decide) (fun c_17 => ?_) (fun c_17 => ?_)
        · skip
          refine lv_iconst (v := 0) hx hb d_P_flag_135 (by decide) ?_
          exact pm_ret hx hb hr hlk (by decide) (by rw [f_P_flag, if_neg c_2, if_neg c_3, if_neg c_5, if_neg c_7, if_neg c_9, if_neg c_11, if_neg c_13, if_pos c_15, if_neg c_16, if_neg c_17]) d_P_flag_136
        · skip
          refine lv_iconst (v := 1) hx hb d_P_flag_131 (by decide) ?_
          refine lv_goto (tgt := 136) hx hb d_P_flag_132 (by decide) ?_
          exact pm_ret hx hb hr hlk (by decide) (by rw [f_P_flag, if_neg c_2, if_neg c_3, if_neg c_5, if_neg c_7, if_neg c_9, if_neg c_11, if_neg c_13, if_pos c_15, if_neg c_16, if_pos c_17]) d_P_flag_136
    by_cases c_18 : k = 7
    · refine lv_tableIn (tgt := 137) (off := 127) hx hb d_P_flag_10 (by rw [c_18]; decide) (by rw [c_18]; decide) (by rw [c_18]; decide) (by decide) ?_
      refine lv_iload_n hx hb d_P_flag_137 rfl (lv_at hl 1 rfl) ?_
      refine pm_callNE hF hN (c_B_isNameless l t) k_B_isNameless j_P_50 ⟨Nat.le_of_ble_eq_true rfl, Nat.le_of_ble_eq_true rfl⟩ rfl hl.1 (Nat.le_of_ble_eq_true rfl) d_P_flag_138 ⟨Nat.le_refl _, Nat.le_refl _⟩ ?_
      exact pm_ret hx hb hr hlk (nar_z (z_B_isNameless t)) (by rw [f_P_flag, if_neg c_2, if_neg c_3, if_neg c_5, if_neg c_7, if_neg c_9, if_neg c_11, if_neg c_13, if_neg c_15, if_pos c_18]) d_P_flag_141
    by_cases c_20 : k = 8
    · refine lv_tableIn (tgt := 142) (off := 132) hx hb d_P_flag_10 (by rw [c_20]; decide) (by rw [c_20]; decide) (by rw [c_20]; decide) (by decide) ?_
      refine lv_iload_n hx hb d_P_flag_142 rfl (lv_at hl 1 rfl) ?_
      refine lv_bipush (v := 23) hx hb d_P_flag_143 (by decide) ?_
      refine lv_icmp_ne (tgt := 152) hx hb d_P_flag_145 (by decide) (fun c_21 => ?_) (fun c_21 => ?_)
      · skip
        refine lv_iconst (v := 0) hx hb d_P_flag_152 (by decide) ?_
        exact pm_ret hx hb hr hlk (by decide) (by rw [f_P_flag, if_neg c_2, if_neg c_3, if_neg c_5, if_neg c_7, if_neg c_9, if_neg c_11, if_neg c_13, if_neg c_15, if_neg c_18, if_pos c_20, if_neg c_21]) d_P_flag_153
      · skip
        refine lv_iconst (v := 1) hx hb d_P_flag_148 (by decide) ?_
        refine lv_goto (tgt := 153) hx hb d_P_flag_149 (by decide) ?_
        exact pm_ret hx hb hr hlk (by decide) (by rw [f_P_flag, if_neg c_2, if_neg c_3, if_neg c_5, if_neg c_7, if_neg c_9, if_neg c_11, if_neg c_13, if_neg c_15, if_neg c_18, if_pos c_20, if_pos c_21]) d_P_flag_153
    by_cases c_22 : k = 9
    · refine lv_tableIn (tgt := 154) (off := 144) hx hb d_P_flag_10 (by rw [c_22]; decide) (by rw [c_22]; decide) (by rw [c_22]; decide) (by decide) ?_
      refine lv_iload_n hx hb d_P_flag_154 rfl (lv_at hl 1 rfl) ?_
      refine pm_callNE hF hN (c_B_isMember l t) k_B_isMember j_P_53 ⟨Nat.le_of_ble_eq_true rfl, Nat.le_of_ble_eq_true rfl⟩ rfl hl.1 (Nat.le_of_ble_eq_true rfl) d_P_flag_155 ⟨Nat.le_refl _, Nat.le_refl _⟩ ?_
      exact pm_ret hx hb hr hlk (nar_z (z_B_isMember t)) (by rw [f_P_flag, if_neg c_2, if_neg c_3, if_neg c_5, if_neg c_7, if_neg c_9, if_neg c_11, if_neg c_13, if_neg c_15, if_neg c_18, if_neg c_20, if_pos c_22]) d_P_flag_158
    by_cases c_24 : k = 10
    · refine lv_tableIn (tgt := 159) (off := 149) hx hb d_P_flag_10 (by rw [c_24]; decide) (by rw [c_24]; decide) (by rw [c_24]; decide) (by decide) ?_
      refine lv_iload_n hx hb d_P_flag_159 rfl (lv_at hl 1 rfl) ?_
      refine pm_callNE hF hN (c_B_isInMethod l t) k_B_isInMethod j_P_56 ⟨Nat.le_of_ble_eq_true rfl, Nat.le_of_ble_eq_true rfl⟩ rfl hl.1 (Nat.le_of_ble_eq_true rfl) d_P_flag_160 ⟨Nat.le_refl _, Nat.le_refl _⟩ ?_
      exact pm_ret hx hb hr hlk (nar_z (z_B_isInMethod t)) (by rw [f_P_flag, if_neg c_2, if_neg c_3, if_neg c_5, if_neg c_7, if_neg c_9, if_neg c_11, if_neg c_13, if_neg c_15, if_neg c_18, if_neg c_20, if_neg c_22, if_pos c_24]) d_P_flag_163
    refine lv_tableOut (tgt := 164) hx hb d_P_flag_10 (by have := lv_neT (a := 0) c_3 (by decide); have := lv_neT (a := 1) c_5 (by decide); have := lv_neT (a := 2) c_7 (by decide); have := lv_neT (a := 3) c_9 (by decide); have := lv_neT (a := 4) c_11 (by decide); have := lv_neT (a := 5) c_13 (by decide); have := lv_neT (a := 6) c_15 (by decide); have := lv_neT (a := 7) c_18 (by decide); have := lv_neT (a := 8) c_20 (by decide); have := lv_neT (a := 9) c_22 (by decide); have := lv_neT (a := 10) c_24 (by decide); omega) (by decide) ?_
    refine lv_iconst (v := 0) hx hb d_P_flag_164 (by decide) ?_
    exact pm_ret hx hb hr hlk (by decide) (by rw [f_P_flag, if_neg c_2, if_neg c_3, if_neg c_5, if_neg c_7, if_neg c_9, if_neg c_11, if_neg c_13, if_neg c_15, if_neg c_18, if_neg c_20, if_neg c_22, if_neg c_24]) d_P_flag_165
  · skip
    refine lv_iconst (v := 0) hx hb d_P_flag_7 (by decide) ?_
    exact pm_ret hx hb hr hlk (by decide) (by rw [f_P_flag, if_pos c_2]) d_P_flag_8
def f_P_number (t : Int32) (k : Int32) : Int32 := (if (f_B_isType t) = 0 then (-1) else (if k = 0 then (f_B_modifiers t) else (if k = 1 then (f_B_interfaceCount t) else (if k = 2 then (if t = 21 then 1 else 0) else (if k = 3 then (if t = 16 then 2 else (-2)) else (if k = 4 then (if t = 14 then 1 else (-2)) else (if k = 5 then (f_B_permitted t) else (if k = 6 then (f_B_memberCount t) else (if k = 7 then (f_B_nestSize t) else (-1))))))))))
set_option maxRecDepth 100000 in
theorem k_P_number : ck y_P_number b_P_number 3 (some .int) 2 (.instanceMethod y_P_number) := ⟨tk_of (List.mem_of_getElem? (i := 469) rfl) rfl, tk_of (List.mem_of_getElem? (i := 467) (by decide +kernel)) rfl, tk_of (List.mem_of_getElem? (i := 36) (by decide +kernel)) rfl, by decide +kernel⟩
theorem j_P_59 : Cond.methodLinkNest R_P 59 y_B_modifiers R_P ∈ nw_l := nw_of (List.mem_of_getElem? (i := 470) (by decide +kernel)) rfl
theorem j_P_62 : Cond.methodLinkNest R_P 62 y_B_interfaceCount R_P ∈ nw_l := nw_of (List.mem_of_getElem? (i := 471) (by decide +kernel)) rfl
theorem j_P_65 : Cond.methodLinkNest R_P 65 y_B_permitted R_P ∈ nw_l := nw_of (List.mem_of_getElem? (i := 474) (by decide +kernel)) rfl
theorem j_P_68 : Cond.methodLinkNest R_P 68 y_B_memberCount R_P ∈ nw_l := nw_of (List.mem_of_getElem? (i := 477) (by decide +kernel)) rfl
theorem j_P_71 : Cond.methodLinkNest R_P 71 y_B_nestSize R_P ∈ nw_l := nw_of (List.mem_of_getElem? (i := 480) (by decide +kernel)) rfl
set_option maxHeartbeats 4000000 in
set_option maxRecDepth 100000 in
theorem c_P_number (l : Launch) (h0 : Nat) (t : Int32) (k : Int32) : pmI l y_P_number b_P_number 3 .int 2 41 [.ref h0, .int t, .int k] (fun r => r = f_P_number t k) := by
  refine pm_of (by decide) (Nat.le_of_ble_eq_true rfl) ?_
  intro p e s m below meth c ls hx hb hF hr hlk hN hl
  have hl : lv_has ls 3 [(0, .ref h0), (1, .int t), (2, .int k)] := hl
  refine lv_iload_n hx hb d_P_number_0 rfl (lv_at hl 1 rfl) ?_
  refine pm_callNE hF hN (c_B_isType l t) k_B_isType j_P_35 ⟨Nat.le_of_ble_eq_true rfl, Nat.le_of_ble_eq_true rfl⟩ rfl hl.1 (Nat.le_of_ble_eq_true rfl) d_P_number_1 ⟨Nat.le_refl _, Nat.le_refl _⟩ ?_
  refine lv_if_ne (tgt := 9) hx hb d_P_number_4 (by decide) (fun c_2 => ?_) (fun c_2 => ?_)
  · skip
    refine lv_iload_n hx hb d_P_number_9 rfl (lv_at hl 2 rfl) ?_
    by_cases c_3 : k = 0
    · refine lv_tableIn (tgt := 56) (off := 46) hx hb d_P_number_10 (by rw [c_3]; decide) (by rw [c_3]; decide) (by rw [c_3]; decide) (by decide) ?_
      refine lv_iload_n hx hb d_P_number_56 rfl (lv_at hl 1 rfl) ?_
      refine pm_callNE hF hN (c_B_modifiers l t) k_B_modifiers j_P_59 ⟨Nat.le_of_ble_eq_true rfl, Nat.le_of_ble_eq_true rfl⟩ rfl hl.1 (Nat.le_of_ble_eq_true rfl) d_P_number_57 ⟨Nat.le_refl _, Nat.le_refl _⟩ ?_
      exact pm_ret hx hb hr hlk (nar_i _) (by rw [f_P_number, if_neg c_2, if_pos c_3]) d_P_number_60
    by_cases c_5 : k = 1
    · refine lv_tableIn (tgt := 61) (off := 51) hx hb d_P_number_10 (by rw [c_5]; decide) (by rw [c_5]; decide) (by rw [c_5]; decide) (by decide) ?_
      refine lv_iload_n hx hb d_P_number_61 rfl (lv_at hl 1 rfl) ?_
      refine pm_callNE hF hN (c_B_interfaceCount l t) k_B_interfaceCount j_P_62 ⟨Nat.le_of_ble_eq_true rfl, Nat.le_of_ble_eq_true rfl⟩ rfl hl.1 (Nat.le_of_ble_eq_true rfl) d_P_number_62 ⟨Nat.le_refl _, Nat.le_refl _⟩ ?_
      exact pm_ret hx hb hr hlk (nar_i _) (by rw [f_P_number, if_neg c_2, if_neg c_3, if_pos c_5]) d_P_number_65
    by_cases c_7 : k = 2
    · refine lv_tableIn (tgt := 66) (off := 56) hx hb d_P_number_10 (by rw [c_7]; decide) (by rw [c_7]; decide) (by rw [c_7]; decide) (by decide) ?_
      refine lv_iload_n hx hb d_P_number_66 rfl (lv_at hl 1 rfl) ?_
      refine lv_bipush (v := 21) hx hb d_P_number_67 (by decide) ?_
      refine lv_icmp_ne (tgt := 76) hx hb d_P_number_69 (by decide) (fun c_8 => ?_) (fun c_8 => ?_)
      · skip
        refine lv_iconst (v := 0) hx hb d_P_number_76 (by decide) ?_
        exact pm_ret hx hb hr hlk (nar_i _) (by rw [f_P_number, if_neg c_2, if_neg c_3, if_neg c_5, if_pos c_7, if_neg c_8]) d_P_number_77
      · skip
        refine lv_iconst (v := 1) hx hb d_P_number_72 (by decide) ?_
        refine lv_goto (tgt := 77) hx hb d_P_number_73 (by decide) ?_
        exact pm_ret hx hb hr hlk (nar_i _) (by rw [f_P_number, if_neg c_2, if_neg c_3, if_neg c_5, if_pos c_7, if_pos c_8]) d_P_number_77
    by_cases c_9 : k = 3
    · refine lv_tableIn (tgt := 78) (off := 68) hx hb d_P_number_10 (by rw [c_9]; decide) (by rw [c_9]; decide) (by rw [c_9]; decide) (by decide) ?_
      refine lv_iload_n hx hb d_P_number_78 rfl (lv_at hl 1 rfl) ?_
      refine lv_bipush (v := 16) hx hb d_P_number_79 (by decide) ?_
      refine lv_icmp_ne (tgt := 88) hx hb d_P_number_81 (by decide) (fun c_10 => ?_) (fun c_10 => ?_)
      · skip
        refine lv_bipush (v := (-2)) hx hb d_P_number_88 (by decide) ?_
        exact pm_ret hx hb hr hlk (nar_i _) (by rw [f_P_number, if_neg c_2, if_neg c_3, if_neg c_5, if_neg c_7, if_pos c_9, if_neg c_10]) d_P_number_90
      · skip
        refine lv_iconst (v := 2) hx hb d_P_number_84 (by decide) ?_
        refine lv_goto (tgt := 90) hx hb d_P_number_85 (by decide) ?_
        exact pm_ret hx hb hr hlk (nar_i _) (by rw [f_P_number, if_neg c_2, if_neg c_3, if_neg c_5, if_neg c_7, if_pos c_9, if_pos c_10]) d_P_number_90
    by_cases c_11 : k = 4
    · refine lv_tableIn (tgt := 91) (off := 81) hx hb d_P_number_10 (by rw [c_11]; decide) (by rw [c_11]; decide) (by rw [c_11]; decide) (by decide) ?_
      refine lv_iload_n hx hb d_P_number_91 rfl (lv_at hl 1 rfl) ?_
      refine lv_bipush (v := 14) hx hb d_P_number_92 (by decide) ?_
      refine lv_icmp_ne (tgt := 101) hx hb d_P_number_94 (by decide) (fun c_12 => ?_) (fun c_12 => ?_)
      · skip
        refine lv_bipush (v := (-2)) hx hb d_P_number_101 (by decide) ?_
        exact pm_ret hx hb hr hlk (nar_i _) (by rw [f_P_number, if_neg c_2, if_neg c_3, if_neg c_5, if_neg c_7, if_neg c_9, if_pos c_11, if_neg c_12]) d_P_number_103
      · skip
        refine lv_iconst (v := 1) hx hb d_P_number_97 (by decide) ?_
        refine lv_goto (tgt := 103) hx hb d_P_number_98 (by decide) ?_
        exact pm_ret hx hb hr hlk (nar_i _) (by rw [f_P_number, if_neg c_2, if_neg c_3, if_neg c_5, if_neg c_7, if_neg c_9, if_pos c_11, if_pos c_12]) d_P_number_103
    by_cases c_13 : k = 5
    · refine lv_tableIn (tgt := 104) (off := 94) hx hb d_P_number_10 (by rw [c_13]; decide) (by rw [c_13]; decide) (by rw [c_13]; decide) (by decide) ?_
      refine lv_iload_n hx hb d_P_number_104 rfl (lv_at hl 1 rfl) ?_
      refine pm_callNE hF hN (c_B_permitted l t) k_B_permitted j_P_65 ⟨Nat.le_of_ble_eq_true rfl, Nat.le_of_ble_eq_true rfl⟩ rfl hl.1 (Nat.le_of_ble_eq_true rfl) d_P_number_105 ⟨Nat.le_refl _, Nat.le_refl _⟩ ?_
      exact pm_ret hx hb hr hlk (nar_i _) (by rw [f_P_number, if_neg c_2, if_neg c_3, if_neg c_5, if_neg c_7, if_neg c_9, if_neg c_11, if_pos c_13]) d_P_number_108
    by_cases c_15 : k = 6
    · refine lv_tableIn (tgt := 109) (off := 99) hx hb d_P_number_10 (by rw [c_15]; decide) (by rw [c_15]; decide) (by rw [c_15]; decide) (by decide) ?_
      refine lv_iload_n hx hb d_P_number_109 rfl (lv_at hl 1 rfl) ?_
      refine pm_callNE hF hN (c_B_memberCount l t) k_B_memberCount j_P_68 ⟨Nat.le_of_ble_eq_true rfl, Nat.le_of_ble_eq_true rfl⟩ rfl hl.1 (Nat.le_of_ble_eq_true rfl) d_P_number_110 ⟨Nat.le_refl _, Nat.le_refl _⟩ ?_
      exact pm_ret hx hb hr hlk (nar_i _) (by rw [f_P_number, if_neg c_2, if_neg c_3, if_neg c_5, if_neg c_7, if_neg c_9, if_neg c_11, if_neg c_13, if_pos c_15]) d_P_number_113
    by_cases c_17 : k = 7
    · refine lv_tableIn (tgt := 114) (off := 104) hx hb d_P_number_10 (by rw [c_17]; decide) (by rw [c_17]; decide) (by rw [c_17]; decide) (by decide) ?_
      refine lv_iload_n hx hb d_P_number_114 rfl (lv_at hl 1 rfl) ?_
      refine pm_callNE hF hN (c_B_nestSize l t) k_B_nestSize j_P_71 ⟨Nat.le_of_ble_eq_true rfl, Nat.le_of_ble_eq_true rfl⟩ rfl hl.1 (Nat.le_of_ble_eq_true rfl) d_P_number_115 ⟨Nat.le_refl _, Nat.le_refl _⟩ ?_
      exact pm_ret hx hb hr hlk (nar_i _) (by rw [f_P_number, if_neg c_2, if_neg c_3, if_neg c_5, if_neg c_7, if_neg c_9, if_neg c_11, if_neg c_13, if_neg c_15, if_pos c_17]) d_P_number_118
    refine lv_tableOut (tgt := 119) hx hb d_P_number_10 (by have := lv_neT (a := 0) c_3 (by decide); have := lv_neT (a := 1) c_5 (by decide); have := lv_neT (a := 2) c_7 (by decide); have := lv_neT (a := 3) c_9 (by decide); have := lv_neT (a := 4) c_11 (by decide); have := lv_neT (a := 5) c_13 (by decide); have := lv_neT (a := 6) c_15 (by decide); have := lv_neT (a := 7) c_17 (by decide); omega) (by decide) ?_
    refine lv_iconst (v := (-1)) hx hb d_P_number_119 (by decide) ?_
    exact pm_ret hx hb hr hlk (nar_i _) (by rw [f_P_number, if_neg c_2, if_neg c_3, if_neg c_5, if_neg c_7, if_neg c_9, if_neg c_11, if_neg c_13, if_neg c_15, if_neg c_17]) d_P_number_120
  · skip
    refine lv_iconst (v := (-1)) hx hb d_P_number_7 (by decide) ?_
    exact pm_ret hx hb hr hlk (nar_i _) (by rw [f_P_number, if_pos c_2]) d_P_number_8
def f_P_related (t : Int32) (k : Int32) : Int32 := (if (f_B_isType t) = 0 then (-1) else (if k = 0 then (f_B_classUp t) else (if k = 1 then (if (f_B_isArray t) = 0 then (-2) else (t - 40)) else (if k = 2 then (f_B_standsIn t) else (if k = 3 then (if (f_B_isMember t) = 0 then (-2) else (f_B_standsIn t)) else (if k = 4 then (if (f_B_isInNest t) = 0 then t else 11) else (if k = 5 then (f_B_arrayOf t 1) else (-1))))))))
set_option maxRecDepth 100000 in
theorem k_P_related : ck y_P_related b_P_related 3 (some .int) 2 (.instanceMethod y_P_related) := ⟨tk_of (List.mem_of_getElem? (i := 489) rfl) rfl, tk_of (List.mem_of_getElem? (i := 487) (by decide +kernel)) rfl, tk_of (List.mem_of_getElem? (i := 36) (by decide +kernel)) rfl, by decide +kernel⟩
theorem j_P_74 : Cond.methodLinkNest R_P 74 y_B_classUp R_P ∈ nw_l := nw_of (List.mem_of_getElem? (i := 490) (by decide +kernel)) rfl
theorem j_P_77 : Cond.methodLinkNest R_P 77 y_B_standsIn R_P ∈ nw_l := nw_of (List.mem_of_getElem? (i := 494) (by decide +kernel)) rfl
theorem j_P_80 : Cond.methodLinkNest R_P 80 y_B_isInNest R_P ∈ nw_l := nw_of (List.mem_of_getElem? (i := 497) (by decide +kernel)) rfl
theorem j_P_83 : Cond.methodLinkNest R_P 83 y_B_arrayOf R_P ∈ nw_l := nw_of (List.mem_of_getElem? (i := 498) (by decide +kernel)) rfl
set_option maxHeartbeats 4000000 in
set_option maxRecDepth 100000 in
theorem c_P_related (l : Launch) (h0 : Nat) (t : Int32) (k : Int32) : pmI l y_P_related b_P_related 3 .int 2 41 [.ref h0, .int t, .int k] (fun r => r = f_P_related t k) := by
  refine pm_of (by decide) (Nat.le_of_ble_eq_true rfl) ?_
  intro p e s m below meth c ls hx hb hF hr hlk hN hl
  have hl : lv_has ls 3 [(0, .ref h0), (1, .int t), (2, .int k)] := hl
  refine lv_iload_n hx hb d_P_related_0 rfl (lv_at hl 1 rfl) ?_
  refine pm_callNE hF hN (c_B_isType l t) k_B_isType j_P_35 ⟨Nat.le_of_ble_eq_true rfl, Nat.le_of_ble_eq_true rfl⟩ rfl hl.1 (Nat.le_of_ble_eq_true rfl) d_P_related_1 ⟨Nat.le_refl _, Nat.le_refl _⟩ ?_
  refine lv_if_ne (tgt := 9) hx hb d_P_related_4 (by decide) (fun c_2 => ?_) (fun c_2 => ?_)
  · skip
    refine lv_iload_n hx hb d_P_related_9 rfl (lv_at hl 2 rfl) ?_
    by_cases c_3 : k = 0
    · refine lv_tableIn (tgt := 48) (off := 38) hx hb d_P_related_10 (by rw [c_3]; decide) (by rw [c_3]; decide) (by rw [c_3]; decide) (by decide) ?_
      refine lv_iload_n hx hb d_P_related_48 rfl (lv_at hl 1 rfl) ?_
      refine pm_callNE hF hN (c_B_classUp l t) k_B_classUp j_P_74 ⟨Nat.le_of_ble_eq_true rfl, Nat.le_of_ble_eq_true rfl⟩ rfl hl.1 (Nat.le_of_ble_eq_true rfl) d_P_related_49 ⟨Nat.le_refl _, Nat.le_refl _⟩ ?_
      exact pm_ret hx hb hr hlk (nar_i _) (by rw [f_P_related, if_neg c_2, if_pos c_3]) d_P_related_52
    by_cases c_5 : k = 1
    · refine lv_tableIn (tgt := 53) (off := 43) hx hb d_P_related_10 (by rw [c_5]; decide) (by rw [c_5]; decide) (by rw [c_5]; decide) (by decide) ?_
      refine lv_iload_n hx hb d_P_related_53 rfl (lv_at hl 1 rfl) ?_
      refine pm_callNE hF hN (c_B_isArray l t) k_B_isArray j_P_41 ⟨Nat.le_of_ble_eq_true rfl, Nat.le_of_ble_eq_true rfl⟩ rfl hl.1 (Nat.le_of_ble_eq_true rfl) d_P_related_54 ⟨Nat.le_refl _, Nat.le_refl _⟩ ?_
      refine lv_if_eq (tgt := 67) hx hb d_P_related_57 (by decide) (fun c_7 => ?_) (fun c_7 => ?_)
      · skip
        refine lv_bipush (v := (-2)) hx hb d_P_related_67 (by decide) ?_
        exact pm_ret hx hb hr hlk (nar_i _) (by rw [f_P_related, if_neg c_2, if_neg c_3, if_pos c_5, if_pos c_7]) d_P_related_69
      · skip
        refine lv_iload_n hx hb d_P_related_60 rfl (lv_at hl 1 rfl) ?_
        refine lv_bipush (v := 40) hx hb d_P_related_61 (by decide) ?_
        refine lv_isub hx hb d_P_related_63 ?_
        refine lv_goto (tgt := 69) hx hb d_P_related_64 (by decide) ?_
        exact pm_ret hx hb hr hlk (nar_i _) (by rw [f_P_related, if_neg c_2, if_neg c_3, if_pos c_5, if_neg c_7]) d_P_related_69
    by_cases c_8 : k = 2
    · refine lv_tableIn (tgt := 70) (off := 60) hx hb d_P_related_10 (by rw [c_8]; decide) (by rw [c_8]; decide) (by rw [c_8]; decide) (by decide) ?_
      refine lv_iload_n hx hb d_P_related_70 rfl (lv_at hl 1 rfl) ?_
      refine pm_callNE hF hN (c_B_standsIn l t) k_B_standsIn j_P_77 ⟨Nat.le_of_ble_eq_true rfl, Nat.le_of_ble_eq_true rfl⟩ rfl hl.1 (Nat.le_of_ble_eq_true rfl) d_P_related_71 ⟨Nat.le_refl _, Nat.le_refl _⟩ ?_
      exact pm_ret hx hb hr hlk (nar_i _) (by rw [f_P_related, if_neg c_2, if_neg c_3, if_neg c_5, if_pos c_8]) d_P_related_74
    by_cases c_10 : k = 3
    · refine lv_tableIn (tgt := 75) (off := 65) hx hb d_P_related_10 (by rw [c_10]; decide) (by rw [c_10]; decide) (by rw [c_10]; decide) (by decide) ?_
      refine lv_iload_n hx hb d_P_related_75 rfl (lv_at hl 1 rfl) ?_
      refine pm_callNE hF hN (c_B_isMember l t) k_B_isMember j_P_53 ⟨Nat.le_of_ble_eq_true rfl, Nat.le_of_ble_eq_true rfl⟩ rfl hl.1 (Nat.le_of_ble_eq_true rfl) d_P_related_76 ⟨Nat.le_refl _, Nat.le_refl _⟩ ?_
      refine lv_if_eq (tgt := 89) hx hb d_P_related_79 (by decide) (fun c_12 => ?_) (fun c_12 => ?_)
      · skip
        refine lv_bipush (v := (-2)) hx hb d_P_related_89 (by decide) ?_
        exact pm_ret hx hb hr hlk (nar_i _) (by rw [f_P_related, if_neg c_2, if_neg c_3, if_neg c_5, if_neg c_8, if_pos c_10, if_pos c_12]) d_P_related_91
      · skip
        refine lv_iload_n hx hb d_P_related_82 rfl (lv_at hl 1 rfl) ?_
        refine pm_callNE hF hN (c_B_standsIn l t) k_B_standsIn j_P_77 ⟨Nat.le_of_ble_eq_true rfl, Nat.le_of_ble_eq_true rfl⟩ rfl hl.1 (Nat.le_of_ble_eq_true rfl) d_P_related_83 ⟨Nat.le_refl _, Nat.le_refl _⟩ ?_
        refine lv_goto (tgt := 91) hx hb d_P_related_86 (by decide) ?_
        exact pm_ret hx hb hr hlk (nar_i _) (by rw [f_P_related, if_neg c_2, if_neg c_3, if_neg c_5, if_neg c_8, if_pos c_10, if_neg c_12]) d_P_related_91
    by_cases c_14 : k = 4
    · refine lv_tableIn (tgt := 92) (off := 82) hx hb d_P_related_10 (by rw [c_14]; decide) (by rw [c_14]; decide) (by rw [c_14]; decide) (by decide) ?_
      refine lv_iload_n hx hb d_P_related_92 rfl (lv_at hl 1 rfl) ?_
      refine pm_callNE hF hN (c_B_isInNest l t) k_B_isInNest j_P_80 ⟨Nat.le_of_ble_eq_true rfl, Nat.le_of_ble_eq_true rfl⟩ rfl hl.1 (Nat.le_of_ble_eq_true rfl) d_P_related_93 ⟨Nat.le_refl _, Nat.le_refl _⟩ ?_
      refine lv_if_eq (tgt := 104) hx hb d_P_related_96 (by decide) (fun c_16 => ?_) (fun c_16 => ?_)
      · skip
        refine lv_iload_n hx hb d_P_related_104 rfl (lv_at hl 1 rfl) ?_
        exact pm_ret hx hb hr hlk (nar_i _) (by rw [f_P_related, if_neg c_2, if_neg c_3, if_neg c_5, if_neg c_8, if_neg c_10, if_pos c_14, if_pos c_16]) d_P_related_105
      · skip
        refine lv_bipush (v := 11) hx hb d_P_related_99 (by decide) ?_
        refine lv_goto (tgt := 105) hx hb d_P_related_101 (by decide) ?_
        exact pm_ret hx hb hr hlk (nar_i _) (by rw [f_P_related, if_neg c_2, if_neg c_3, if_neg c_5, if_neg c_8, if_neg c_10, if_pos c_14, if_neg c_16]) d_P_related_105
    by_cases c_17 : k = 5
    · refine lv_tableIn (tgt := 106) (off := 96) hx hb d_P_related_10 (by rw [c_17]; decide) (by rw [c_17]; decide) (by rw [c_17]; decide) (by decide) ?_
      refine lv_iload_n hx hb d_P_related_106 rfl (lv_at hl 1 rfl) ?_
      refine lv_iconst (v := 1) hx hb d_P_related_107 (by decide) ?_
      refine pm_callNE hF hN (c_B_arrayOf l t 1) k_B_arrayOf j_P_83 ⟨Nat.le_of_ble_eq_true rfl, Nat.le_of_ble_eq_true rfl⟩ rfl hl.1 (Nat.le_of_ble_eq_true rfl) d_P_related_108 ⟨Nat.le_refl _, Nat.le_refl _⟩ ?_
      exact pm_ret hx hb hr hlk (nar_i _) (by rw [f_P_related, if_neg c_2, if_neg c_3, if_neg c_5, if_neg c_8, if_neg c_10, if_neg c_14, if_pos c_17]) d_P_related_111
    refine lv_tableOut (tgt := 112) hx hb d_P_related_10 (by have := lv_neT (a := 0) c_3 (by decide); have := lv_neT (a := 1) c_5 (by decide); have := lv_neT (a := 2) c_8 (by decide); have := lv_neT (a := 3) c_10 (by decide); have := lv_neT (a := 4) c_14 (by decide); have := lv_neT (a := 5) c_17 (by decide); omega) (by decide) ?_
    refine lv_iconst (v := (-1)) hx hb d_P_related_112 (by decide) ?_
    exact pm_ret hx hb hr hlk (nar_i _) (by rw [f_P_related, if_neg c_2, if_neg c_3, if_neg c_5, if_neg c_8, if_neg c_10, if_neg c_14, if_neg c_17]) d_P_related_113
  · skip
    refine lv_iconst (v := (-1)) hx hb d_P_related_7 (by decide) ?_
    exact pm_ret hx hb hr hlk (nar_i _) (by rw [f_P_related, if_pos c_2]) d_P_related_8
def f_P_interfaceOf (t : Int32) (k : Int32) : Int32 := (if (f_B_isType t) = 0 then (-1) else (f_B_interfaceAt t k))
set_option maxRecDepth 100000 in
theorem k_P_interfaceOf : ck y_P_interfaceOf b_P_interfaceOf 3 (some .int) 2 (.instanceMethod y_P_interfaceOf) := ⟨tk_of (List.mem_of_getElem? (i := 504) rfl) rfl, tk_of (List.mem_of_getElem? (i := 502) (by decide +kernel)) rfl, tk_of (List.mem_of_getElem? (i := 36) (by decide +kernel)) rfl, by decide +kernel⟩
theorem j_P_86 : Cond.methodLinkNest R_P 86 y_B_interfaceAt R_P ∈ nw_l := nw_of (List.mem_of_getElem? (i := 505) (by decide +kernel)) rfl
set_option maxHeartbeats 4000000 in
set_option maxRecDepth 100000 in
theorem c_P_interfaceOf (l : Launch) (h0 : Nat) (t : Int32) (k : Int32) : pmI l y_P_interfaceOf b_P_interfaceOf 3 .int 3 61 [.ref h0, .int t, .int k] (fun r => r = f_P_interfaceOf t k) := by
  refine pm_of (by decide) (Nat.le_of_ble_eq_true rfl) ?_
  intro p e s m below meth c ls hx hb hF hr hlk hN hl
  have hl : lv_has ls 3 [(0, .ref h0), (1, .int t), (2, .int k)] := hl
  refine lv_iload_n hx hb d_P_interfaceOf_0 rfl (lv_at hl 1 rfl) ?_
  refine pm_callNE hF hN (c_B_isType l t) k_B_isType j_P_35 ⟨Nat.le_of_ble_eq_true rfl, Nat.le_of_ble_eq_true rfl⟩ rfl hl.1 (Nat.le_of_ble_eq_true rfl) d_P_interfaceOf_1 ⟨Nat.le_refl _, Nat.le_refl _⟩ ?_
  refine lv_if_eq (tgt := 15) hx hb d_P_interfaceOf_4 (by decide) (fun c_2 => ?_) (fun c_2 => ?_)
  · skip
    refine lv_iconst (v := (-1)) hx hb d_P_interfaceOf_15 (by decide) ?_
    exact pm_ret hx hb hr hlk (nar_i _) (by rw [f_P_interfaceOf, if_pos c_2]) d_P_interfaceOf_16
  · skip
    refine lv_iload_n hx hb d_P_interfaceOf_7 rfl (lv_at hl 1 rfl) ?_
    refine lv_iload_n hx hb d_P_interfaceOf_8 rfl (lv_at hl 2 rfl) ?_
    refine pm_callNE hF hN (c_B_interfaceAt l t k) k_B_interfaceAt j_P_86 ⟨Nat.le_of_ble_eq_true rfl, Nat.le_of_ble_eq_true rfl⟩ rfl hl.1 (Nat.le_of_ble_eq_true rfl) d_P_interfaceOf_9 ⟨Nat.le_refl _, Nat.le_refl _⟩ ?_
    refine lv_goto (tgt := 16) hx hb d_P_interfaceOf_12 (by decide) ?_
    exact pm_ret hx hb hr hlk (nar_i _) (by rw [f_P_interfaceOf, if_neg c_2]) d_P_interfaceOf_16
def f_P_goesInto (u : Int32) (t : Int32) : Int32 := (if (f_B_isType u) = 0 then 0 else (if (f_B_isType t) = 0 then 0 else (if (f_B_fits u t) = 0 then 0 else 1)))
set_option maxRecDepth 100000 in
theorem z_P_goesInto (u : Int32) (t : Int32) : f_P_goesInto u t = 0 ∨ f_P_goesInto u t = 1 := by
  unfold f_P_goesInto
  repeat' first | with_reducible refine z_ite ?_ ?_ | with_reducible exact z_B_fits _ _ | with_reducible exact z_B_isType _ | with_reducible exact Or.inl rfl | with_reducible exact Or.inr rfl
set_option maxRecDepth 100000 in
theorem k_P_goesInto : ck y_P_goesInto b_P_goesInto 3 (some .boolean) 2 (.instanceMethod y_P_goesInto) := ⟨tk_of (List.mem_of_getElem? (i := 512) rfl) rfl, tk_of (List.mem_of_getElem? (i := 510) (by decide +kernel)) rfl, tk_of (List.mem_of_getElem? (i := 36) (by decide +kernel)) rfl, by decide +kernel⟩
theorem j_P_89 : Cond.methodLinkNest R_P 89 y_B_fits R_P ∈ nw_l := nw_of (List.mem_of_getElem? (i := 513) (by decide +kernel)) rfl
set_option maxHeartbeats 4000000 in
set_option maxRecDepth 100000 in
theorem c_P_goesInto (l : Launch) (h0 : Nat) (u : Int32) (t : Int32) : pmI l y_P_goesInto b_P_goesInto 3 .boolean 5 108 [.ref h0, .int u, .int t] (fun r => r = f_P_goesInto u t) := by
  refine pm_of (by decide) (Nat.le_of_ble_eq_true rfl) ?_
  intro p e s m below meth c ls hx hb hF hr hlk hN hl
  have hl : lv_has ls 3 [(0, .ref h0), (1, .int u), (2, .int t)] := hl
  refine lv_iload_n hx hb d_P_goesInto_0 rfl (lv_at hl 1 rfl) ?_
  refine pm_callNE hF hN (c_B_isType l u) k_B_isType j_P_35 ⟨Nat.le_of_ble_eq_true rfl, Nat.le_of_ble_eq_true rfl⟩ rfl hl.1 (Nat.le_of_ble_eq_true rfl) d_P_goesInto_1 ⟨Nat.le_refl _, Nat.le_refl _⟩ ?_
  refine lv_if_eq (tgt := 26) hx hb d_P_goesInto_4 (by decide) (fun c_2 => ?_) (fun c_2 => ?_)
  · skip
    refine lv_iconst (v := 0) hx hb d_P_goesInto_26 (by decide) ?_
    exact pm_ret hx hb hr hlk (by decide) (by rw [f_P_goesInto, if_pos c_2]) d_P_goesInto_27
  · skip
    refine lv_iload_n hx hb d_P_goesInto_7 rfl (lv_at hl 2 rfl) ?_
    refine pm_callNE hF hN (c_B_isType l t) k_B_isType j_P_35 ⟨Nat.le_of_ble_eq_true rfl, Nat.le_of_ble_eq_true rfl⟩ rfl hl.1 (Nat.le_of_ble_eq_true rfl) d_P_goesInto_8 ⟨Nat.le_refl _, Nat.le_refl _⟩ ?_
    refine lv_if_eq (tgt := 26) hx hb d_P_goesInto_11 (by decide) (fun c_4 => ?_) (fun c_4 => ?_)
    · skip
      refine lv_iconst (v := 0) hx hb d_P_goesInto_26 (by decide) ?_
      exact pm_ret hx hb hr hlk (by decide) (by rw [f_P_goesInto, if_neg c_2, if_pos c_4]) d_P_goesInto_27
    · skip
      refine lv_iload_n hx hb d_P_goesInto_14 rfl (lv_at hl 1 rfl) ?_
      refine lv_iload_n hx hb d_P_goesInto_15 rfl (lv_at hl 2 rfl) ?_
      refine pm_callNE hF hN (c_B_fits l u t) k_B_fits j_P_89 ⟨Nat.le_of_ble_eq_true rfl, Nat.le_of_ble_eq_true rfl⟩ rfl hl.1 (Nat.le_of_ble_eq_true rfl) d_P_goesInto_16 ⟨Nat.le_refl _, Nat.le_refl _⟩ ?_
      refine lv_if_eq (tgt := 26) hx hb d_P_goesInto_19 (by decide) (fun c_6 => ?_) (fun c_6 => ?_)
      · skip
        refine lv_iconst (v := 0) hx hb d_P_goesInto_26 (by decide) ?_
        exact pm_ret hx hb hr hlk (by decide) (by rw [f_P_goesInto, if_neg c_2, if_neg c_4, if_pos c_6]) d_P_goesInto_27
      · skip
        refine lv_iconst (v := 1) hx hb d_P_goesInto_22 (by decide) ?_
        refine lv_goto (tgt := 27) hx hb d_P_goesInto_23 (by decide) ?_
        exact pm_ret hx hb hr hlk (by decide) (by rw [f_P_goesInto, if_neg c_2, if_neg c_4, if_neg c_6]) d_P_goesInto_27
def f_P_asSubclass (u : Int32) (t : Int32) : Int32 := (if (f_B_isType u) = 0 then (-1) else (if (f_B_isType t) = 0 then (-1) else (if (f_B_fits u t) = 0 then (-5) else u)))
set_option maxRecDepth 100000 in
theorem k_P_asSubclass : ck y_P_asSubclass b_P_asSubclass 3 (some .int) 2 (.instanceMethod y_P_asSubclass) := ⟨tk_of (List.mem_of_getElem? (i := 525) rfl) rfl, tk_of (List.mem_of_getElem? (i := 523) (by decide +kernel)) rfl, tk_of (List.mem_of_getElem? (i := 36) (by decide +kernel)) rfl, by decide +kernel⟩
set_option maxHeartbeats 4000000 in
set_option maxRecDepth 100000 in
theorem c_P_asSubclass (l : Launch) (h0 : Nat) (u : Int32) (t : Int32) : pmI l y_P_asSubclass b_P_asSubclass 3 .int 5 108 [.ref h0, .int u, .int t] (fun r => r = f_P_asSubclass u t) := by
  refine pm_of (by decide) (Nat.le_of_ble_eq_true rfl) ?_
  intro p e s m below meth c ls hx hb hF hr hlk hN hl
  have hl : lv_has ls 3 [(0, .ref h0), (1, .int u), (2, .int t)] := hl
  refine lv_iload_n hx hb d_P_asSubclass_0 rfl (lv_at hl 1 rfl) ?_
  refine pm_callNE hF hN (c_B_isType l u) k_B_isType j_P_35 ⟨Nat.le_of_ble_eq_true rfl, Nat.le_of_ble_eq_true rfl⟩ rfl hl.1 (Nat.le_of_ble_eq_true rfl) d_P_asSubclass_1 ⟨Nat.le_refl _, Nat.le_refl _⟩ ?_
  refine lv_if_eq (tgt := 14) hx hb d_P_asSubclass_4 (by decide) (fun c_2 => ?_) (fun c_2 => ?_)
  · skip
    refine lv_iconst (v := (-1)) hx hb d_P_asSubclass_14 (by decide) ?_
    exact pm_ret hx hb hr hlk (nar_i _) (by rw [f_P_asSubclass, if_pos c_2]) d_P_asSubclass_15
  · skip
    refine lv_iload_n hx hb d_P_asSubclass_7 rfl (lv_at hl 2 rfl) ?_
    refine pm_callNE hF hN (c_B_isType l t) k_B_isType j_P_35 ⟨Nat.le_of_ble_eq_true rfl, Nat.le_of_ble_eq_true rfl⟩ rfl hl.1 (Nat.le_of_ble_eq_true rfl) d_P_asSubclass_8 ⟨Nat.le_refl _, Nat.le_refl _⟩ ?_
    refine lv_if_ne (tgt := 16) hx hb d_P_asSubclass_11 (by decide) (fun c_4 => ?_) (fun c_4 => ?_)
    · skip
      refine lv_iload_n hx hb d_P_asSubclass_16 rfl (lv_at hl 1 rfl) ?_
      refine lv_iload_n hx hb d_P_asSubclass_17 rfl (lv_at hl 2 rfl) ?_
      refine pm_callNE hF hN (c_B_fits l u t) k_B_fits j_P_89 ⟨Nat.le_of_ble_eq_true rfl, Nat.le_of_ble_eq_true rfl⟩ rfl hl.1 (Nat.le_of_ble_eq_true rfl) d_P_asSubclass_18 ⟨Nat.le_refl _, Nat.le_refl _⟩ ?_
      refine lv_if_eq (tgt := 28) hx hb d_P_asSubclass_21 (by decide) (fun c_6 => ?_) (fun c_6 => ?_)
      · skip
        refine lv_bipush (v := (-5)) hx hb d_P_asSubclass_28 (by decide) ?_
        exact pm_ret hx hb hr hlk (nar_i _) (by rw [f_P_asSubclass, if_neg c_2, if_neg c_4, if_pos c_6]) d_P_asSubclass_30
      · skip
        refine lv_iload_n hx hb d_P_asSubclass_24 rfl (lv_at hl 1 rfl) ?_
        refine lv_goto (tgt := 30) hx hb d_P_asSubclass_25 (by decide) ?_
        exact pm_ret hx hb hr hlk (nar_i _) (by rw [f_P_asSubclass, if_neg c_2, if_neg c_4, if_neg c_6]) d_P_asSubclass_30
    · skip
      refine lv_iconst (v := (-1)) hx hb d_P_asSubclass_14 (by decide) ?_
      exact pm_ret hx hb hr hlk (nar_i _) (by rw [f_P_asSubclass, if_neg c_2, if_pos c_4]) d_P_asSubclass_15
def f_P_nestmates (u : Int32) (t : Int32) : Int32 := (if (f_B_isType u) = 0 then 0 else (if (f_B_isType t) = 0 then 0 else (if u = t then 1 else (if (f_B_isInNest u) = 0 then 0 else (if (f_B_isInNest t) = 0 then 0 else 1)))))
set_option maxRecDepth 100000 in
theorem z_P_nestmates (u : Int32) (t : Int32) : f_P_nestmates u t = 0 ∨ f_P_nestmates u t = 1 := by
  unfold f_P_nestmates
  repeat' first | with_reducible refine z_ite ?_ ?_ | with_reducible exact z_B_isInNest _ | with_reducible exact z_B_isType _ | with_reducible exact Or.inl rfl | with_reducible exact Or.inr rfl
set_option maxRecDepth 100000 in
theorem k_P_nestmates : ck y_P_nestmates b_P_nestmates 3 (some .boolean) 2 (.instanceMethod y_P_nestmates) := ⟨tk_of (List.mem_of_getElem? (i := 529) rfl) rfl, tk_of (List.mem_of_getElem? (i := 527) (by decide +kernel)) rfl, tk_of (List.mem_of_getElem? (i := 36) (by decide +kernel)) rfl, by decide +kernel⟩
set_option maxHeartbeats 4000000 in
set_option maxRecDepth 100000 in
theorem c_P_nestmates (l : Launch) (h0 : Nat) (u : Int32) (t : Int32) : pmI l y_P_nestmates b_P_nestmates 3 .boolean 2 40 [.ref h0, .int u, .int t] (fun r => r = f_P_nestmates u t) := by
  refine pm_of (by decide) (Nat.le_of_ble_eq_true rfl) ?_
  intro p e s m below meth c ls hx hb hF hr hlk hN hl
  have hl : lv_has ls 3 [(0, .ref h0), (1, .int u), (2, .int t)] := hl
  refine lv_iload_n hx hb d_P_nestmates_0 rfl (lv_at hl 1 rfl) ?_
  refine pm_callNE hF hN (c_B_isType l u) k_B_isType j_P_35 ⟨Nat.le_of_ble_eq_true rfl, Nat.le_of_ble_eq_true rfl⟩ rfl hl.1 (Nat.le_of_ble_eq_true rfl) d_P_nestmates_1 ⟨Nat.le_refl _, Nat.le_refl _⟩ ?_
  refine lv_if_eq (tgt := 14) hx hb d_P_nestmates_4 (by decide) (fun c_2 => ?_) (fun c_2 => ?_)
  · skip
    refine lv_iconst (v := 0) hx hb d_P_nestmates_14 (by decide) ?_
    exact pm_ret hx hb hr hlk (by decide) (by rw [f_P_nestmates, if_pos c_2]) d_P_nestmates_15
  · skip
    refine lv_iload_n hx hb d_P_nestmates_7 rfl (lv_at hl 2 rfl) ?_
    refine pm_callNE hF hN (c_B_isType l t) k_B_isType j_P_35 ⟨Nat.le_of_ble_eq_true rfl, Nat.le_of_ble_eq_true rfl⟩ rfl hl.1 (Nat.le_of_ble_eq_true rfl) d_P_nestmates_8 ⟨Nat.le_refl _, Nat.le_refl _⟩ ?_
    refine lv_if_ne (tgt := 16) hx hb d_P_nestmates_11 (by decide) (fun c_4 => ?_) (fun c_4 => ?_)
    · skip
      refine lv_iload_n hx hb d_P_nestmates_16 rfl (lv_at hl 1 rfl) ?_
      refine lv_iload_n hx hb d_P_nestmates_17 rfl (lv_at hl 2 rfl) ?_
      refine lv_icmp_eq (tgt := 35) hx hb d_P_nestmates_18 (by decide) (fun c_5 => ?_) (fun c_5 => ?_)
      · skip
        refine lv_iconst (v := 1) hx hb d_P_nestmates_35 (by decide) ?_
        refine lv_goto (tgt := 40) hx hb d_P_nestmates_36 (by decide) ?_
        exact pm_ret hx hb hr hlk (by decide) (by rw [f_P_nestmates, if_neg c_2, if_neg c_4, if_pos c_5]) d_P_nestmates_40
      · skip
        refine lv_iload_n hx hb d_P_nestmates_21 rfl (lv_at hl 1 rfl) ?_
        refine pm_callNE hF hN (c_B_isInNest l u) k_B_isInNest j_P_80 ⟨Nat.le_of_ble_eq_true rfl, Nat.le_of_ble_eq_true rfl⟩ rfl hl.1 (Nat.le_of_ble_eq_true rfl) d_P_nestmates_22 ⟨Nat.le_refl _, Nat.le_refl _⟩ ?_
        refine lv_if_eq (tgt := 39) hx hb d_P_nestmates_25 (by decide) (fun c_7 => ?_) (fun c_7 => ?_)
        · skip
          refine lv_iconst (v := 0) hx hb d_P_nestmates_39 (by decide) ?_
          exact pm_ret hx hb hr hlk (by decide) (by rw [f_P_nestmates, if_neg c_2, if_neg c_4, if_neg c_5, if_pos c_7]) d_P_nestmates_40
        · skip
          refine lv_iload_n hx hb d_P_nestmates_28 rfl (lv_at hl 2 rfl) ?_
          refine pm_callNE hF hN (c_B_isInNest l t) k_B_isInNest j_P_80 ⟨Nat.le_of_ble_eq_true rfl, Nat.le_of_ble_eq_true rfl⟩ rfl hl.1 (Nat.le_of_ble_eq_true rfl) d_P_nestmates_29 ⟨Nat.le_refl _, Nat.le_refl _⟩ ?_
          refine lv_if_eq (tgt := 39) hx hb d_P_nestmates_32 (by decide) (fun c_9 => ?_) (fun c_9 => ?_)
          · skip
            refine lv_iconst (v := 0) hx hb d_P_nestmates_39 (by decide) ?_
            exact pm_ret hx hb hr hlk (by decide) (by rw [f_P_nestmates, if_neg c_2, if_neg c_4, if_neg c_5, if_neg c_7, if_pos c_9]) d_P_nestmates_40
          · skip
            refine lv_iconst (v := 1) hx hb d_P_nestmates_35 (by decide) ?_
            refine lv_goto (tgt := 40) hx hb d_P_nestmates_36 (by decide) ?_
            exact pm_ret hx hb hr hlk (by decide) (by rw [f_P_nestmates, if_neg c_2, if_neg c_4, if_neg c_5, if_neg c_7, if_neg c_9]) d_P_nestmates_40
    · skip
      refine lv_iconst (v := 0) hx hb d_P_nestmates_14 (by decide) ?_
      exact pm_ret hx hb hr hlk (by decide) (by rw [f_P_nestmates, if_neg c_2, if_pos c_4]) d_P_nestmates_15
end
section
def f_M_in (v : Int32) (a : Int32) (b : Int32) : Int32 := (if v < a then 0 else (if b < v then 0 else 1))
set_option maxRecDepth 100000 in
theorem z_M_in (v : Int32) (a : Int32) (b : Int32) : f_M_in v a b = 0 ∨ f_M_in v a b = 1 := by
  unfold f_M_in
  repeat' first | with_reducible refine z_ite ?_ ?_ | with_reducible exact Or.inl rfl | with_reducible exact Or.inr rfl
set_option maxRecDepth 100000 in
theorem k_M_in : ck y_M_in b_M_in 3 (some .boolean) 3 (.static y_M_in) := ⟨tk_of (List.mem_of_getElem? (i := 701) rfl) rfl, tk_of (List.mem_of_getElem? (i := 700) (by decide +kernel)) rfl, tk_of (List.mem_of_getElem? (i := 43) (by decide +kernel)) rfl, by decide +kernel⟩
set_option maxHeartbeats 4000000 in
set_option maxRecDepth 100000 in
theorem c_M_in (l : Launch) (v : Int32) (a : Int32) (b : Int32) : pmI l y_M_in b_M_in 3 .boolean 0 0 [.int v, .int a, .int b] (fun r => r = f_M_in v a b) := by
  refine pm_of (by decide) (Nat.le_of_ble_eq_true rfl) ?_
  intro p e s m below meth c ls hx hb hF hr hlk hN hl
  have hl : lv_has ls 3 [(0, .int v), (1, .int a), (2, .int b)] := hl
  refine lv_iload_n hx hb d_M_in_0 rfl (lv_at hl 0 rfl) ?_
  refine lv_iload_n hx hb d_M_in_1 rfl (lv_at hl 1 rfl) ?_
  refine lv_icmp_lt (tgt := 14) hx hb d_M_in_2 (by decide) (fun c_1 => ?_) (fun c_1 => ?_)
  · skip
    refine lv_iconst (v := 0) hx hb d_M_in_14 (by decide) ?_
    exact pm_ret hx hb hr hlk (by decide) (by rw [f_M_in, if_pos c_1]) d_M_in_15
  · skip
    refine lv_iload_n hx hb d_M_in_5 rfl (lv_at hl 0 rfl) ?_
    refine lv_iload_n hx hb d_M_in_6 rfl (lv_at hl 2 rfl) ?_
    refine lv_icmp_gt (tgt := 14) hx hb d_M_in_7 (by decide) (fun c_2 => ?_) (fun c_2 => ?_)
    · skip
      refine lv_iconst (v := 0) hx hb d_M_in_14 (by decide) ?_
      exact pm_ret hx hb hr hlk (by decide) (by rw [f_M_in, if_neg c_1, if_pos c_2]) d_M_in_15
    · skip
      refine lv_iconst (v := 1) hx hb d_M_in_10 (by decide) ?_
      refine lv_goto (tgt := 15) hx hb d_M_in_11 (by decide) ?_
      exact pm_ret hx hb hr hlk (by decide) (by rw [f_M_in, if_neg c_1, if_neg c_2]) d_M_in_15
def f_M_isType (t : Int32) : Int32 := (if (f_M_in t 0 24) = 0 then (if (f_M_in t 40 64) = 0 then (if (f_M_in t 80 104) = 0 then 0 else (if t = 88 then 0 else 1)) else (if t = 48 then (if (f_M_in t 80 104) = 0 then 0 else (if t = 88 then 0 else 1)) else 1)) else 1)
set_option maxRecDepth 100000 in
theorem z_M_isType (t : Int32) : f_M_isType t = 0 ∨ f_M_isType t = 1 := by
  unfold f_M_isType
  repeat' first | with_reducible refine z_ite ?_ ?_ | with_reducible exact z_M_in _ _ _ | with_reducible exact Or.inl rfl | with_reducible exact Or.inr rfl
set_option maxRecDepth 100000 in
theorem k_M_isType : ck y_M_isType b_M_isType 1 (some .boolean) 1 (.static y_M_isType) := ⟨tk_of (List.mem_of_getElem? (i := 698) rfl) rfl, tk_of (List.mem_of_getElem? (i := 697) (by decide +kernel)) rfl, tk_of (List.mem_of_getElem? (i := 43) (by decide +kernel)) rfl, by decide +kernel⟩
theorem j_M_26 : Cond.methodLink R_M 26 y_M_in ∈ tk := tk_of (List.mem_of_getElem? (i := 699) (by decide +kernel)) rfl
set_option maxHeartbeats 4000000 in
set_option maxRecDepth 100000 in
theorem c_M_isType (l : Launch) (t : Int32) : pmI l y_M_isType b_M_isType 1 .boolean 1 22 [.int t] (fun r => r = f_M_isType t) := by
  refine pm_of (by decide) (Nat.le_of_ble_eq_true rfl) ?_
  intro p e s m below meth c ls hx hb hF hr hlk hN hl
  have hl : lv_has ls 1 [(0, .int t)] := hl
  refine lv_iload_n hx hb d_M_isType_0 rfl (lv_at hl 0 rfl) ?_
  refine lv_iconst (v := 0) hx hb d_M_isType_1 (by decide) ?_
  refine lv_bipush (v := 24) hx hb d_M_isType_2 (by decide) ?_
  refine pm_callE hF hN (c_M_in l t 0 24) k_M_in j_M_26 ⟨Nat.le_of_ble_eq_true rfl, Nat.le_of_ble_eq_true rfl⟩ rfl hl.1 (Nat.le_of_ble_eq_true rfl) d_M_isType_4 ⟨Nat.le_refl _, Nat.le_refl _⟩ ?_
  refine lv_if_ne (tgt := 44) hx hb d_M_isType_7 (by decide) (fun c_2 => ?_) (fun c_2 => ?_)
  · skip
    refine lv_iconst (v := 1) hx hb d_M_isType_44 (by decide) ?_
    refine lv_goto (tgt := 49) hx hb d_M_isType_45 (by decide) ?_
    exact pm_ret hx hb hr hlk (by decide) (by rw [f_M_isType, if_neg c_2]) d_M_isType_49
  · skip
    refine lv_iload_n hx hb d_M_isType_10 rfl (lv_at hl 0 rfl) ?_
    refine lv_bipush (v := 40) hx hb d_M_isType_11 (by decide) ?_
    refine lv_bipush (v := 64) hx hb d_M_isType_13 (by decide) ?_
    refine pm_callE hF hN (c_M_in l t 40 64) k_M_in j_M_26 ⟨Nat.le_of_ble_eq_true rfl, Nat.le_of_ble_eq_true rfl⟩ rfl hl.1 (Nat.le_of_ble_eq_true rfl) d_M_isType_15 ⟨Nat.le_refl _, Nat.le_refl _⟩ ?_
    refine lv_if_eq (tgt := 27) hx hb d_M_isType_18 (by decide) (fun c_4 => ?_) (fun c_4 => ?_)
    · skip
      refine lv_iload_n hx hb d_M_isType_27 rfl (lv_at hl 0 rfl) ?_
      refine lv_bipush (v := 80) hx hb d_M_isType_28 (by decide) ?_
      refine lv_bipush (v := 104) hx hb d_M_isType_30 (by decide) ?_
      refine pm_callE hF hN (c_M_in l t 80 104) k_M_in j_M_26 ⟨Nat.le_of_ble_eq_true rfl, Nat.le_of_ble_eq_true rfl⟩ rfl hl.1 (Nat.le_of_ble_eq_true rfl) d_M_isType_32 ⟨Nat.le_refl _, Nat.le_refl _⟩ ?_
      refine lv_if_eq (tgt := 48) hx hb d_M_isType_35 (by decide) (fun c_6 => ?_) (fun c_6 => ?_)
      · skip
        refine lv_iconst (v := 0) hx hb d_M_isType_48 (by decide) ?_
        exact pm_ret hx hb hr hlk (by decide) (by rw [f_M_isType, if_pos c_2, if_pos c_4, if_pos c_6]) d_M_isType_49
      · skip
        refine lv_iload_n hx hb d_M_isType_38 rfl (lv_at hl 0 rfl) ?_
        refine lv_bipush (v := 88) hx hb d_M_isType_39 (by decide) ?_
        refine lv_icmp_eq (tgt := 48) hx hb d_M_isType_41 (by decide) (fun c_7 => ?_) (fun c_7 => ?_)
        · skip
          refine lv_iconst (v := 0) hx hb d_M_isType_48 (by decide) ?_
          exact pm_ret hx hb hr hlk (by decide) (by rw [f_M_isType, if_pos c_2, if_pos c_4, if_neg c_6, if_pos c_7]) d_M_isType_49
        · skip
          refine lv_iconst (v := 1) hx hb d_M_isType_44 (by decide) ?_
          refine lv_goto (tgt := 49) hx hb d_M_isType_45 (by decide) ?_
          exact pm_ret hx hb hr hlk (by decide) (by rw [f_M_isType, if_pos c_2, if_pos c_4, if_neg c_6, if_neg c_7]) d_M_isType_49
    · skip
      refine lv_iload_n hx hb d_M_isType_21 rfl (lv_at hl 0 rfl) ?_
      refine lv_bipush (v := 48) hx hb d_M_isType_22 (by decide) ?_
      refine lv_icmp_ne (tgt := 44) hx hb d_M_isType_24 (by decide) (fun c_8 => ?_) (fun c_8 => ?_)
      · skip
        refine lv_iconst (v := 1) hx hb d_M_isType_44 (by decide) ?_
        refine lv_goto (tgt := 49) hx hb d_M_isType_45 (by decide) ?_
        exact pm_ret hx hb hr hlk (by decide) (by rw [f_M_isType, if_pos c_2, if_neg c_4, if_neg c_8]) d_M_isType_49
      · skip
        refine lv_iload_n hx hb d_M_isType_27 rfl (lv_at hl 0 rfl) ?_
        refine lv_bipush (v := 80) hx hb d_M_isType_28 (by decide) ?_
        refine lv_bipush (v := 104) hx hb d_M_isType_30 (by decide) ?_
        refine pm_callE hF hN (c_M_in l t 80 104) k_M_in j_M_26 ⟨Nat.le_of_ble_eq_true rfl, Nat.le_of_ble_eq_true rfl⟩ rfl hl.1 (Nat.le_of_ble_eq_true rfl) d_M_isType_32 ⟨Nat.le_refl _, Nat.le_refl _⟩ ?_
        refine lv_if_eq (tgt := 48) hx hb d_M_isType_35 (by decide) (fun c_10 => ?_) (fun c_10 => ?_)
        · skip
          refine lv_iconst (v := 0) hx hb d_M_isType_48 (by decide) ?_
          exact pm_ret hx hb hr hlk (by decide) (by rw [f_M_isType, if_pos c_2, if_neg c_4, if_pos c_8, if_pos c_10]) d_M_isType_49
        · skip
          refine lv_iload_n hx hb d_M_isType_38 rfl (lv_at hl 0 rfl) ?_
          refine lv_bipush (v := 88) hx hb d_M_isType_39 (by decide) ?_
          refine lv_icmp_eq (tgt := 48) hx hb d_M_isType_41 (by decide) (fun c_11 => ?_) (fun c_11 => ?_)
          · skip
            refine lv_iconst (v := 0) hx hb d_M_isType_48 (by decide) ?_
            exact pm_ret hx hb hr hlk (by decide) (by rw [f_M_isType, if_pos c_2, if_neg c_4, if_pos c_8, if_neg c_10, if_pos c_11]) d_M_isType_49
          · skip
            refine lv_iconst (v := 1) hx hb d_M_isType_44 (by decide) ?_
            refine lv_goto (tgt := 49) hx hb d_M_isType_45 (by decide) ?_
            exact pm_ret hx hb hr hlk (by decide) (by rw [f_M_isType, if_pos c_2, if_neg c_4, if_pos c_8, if_neg c_10, if_neg c_11]) d_M_isType_49
def f_M_primitive (t : Int32) : Int32 := (f_M_in t 0 8)
set_option maxRecDepth 100000 in
theorem z_M_primitive (t : Int32) : f_M_primitive t = 0 ∨ f_M_primitive t = 1 := by
  unfold f_M_primitive
  repeat' first | with_reducible refine z_ite ?_ ?_ | with_reducible exact z_M_in _ _ _ | with_reducible exact Or.inl rfl | with_reducible exact Or.inr rfl
set_option maxRecDepth 100000 in
theorem k_M_primitive : ck y_M_primitive b_M_primitive 1 (some .boolean) 1 (.static y_M_primitive) := ⟨tk_of (List.mem_of_getElem? (i := 726) rfl) rfl, tk_of (List.mem_of_getElem? (i := 725) (by decide +kernel)) rfl, tk_of (List.mem_of_getElem? (i := 43) (by decide +kernel)) rfl, by decide +kernel⟩
set_option maxHeartbeats 4000000 in
set_option maxRecDepth 100000 in
theorem c_M_primitive (l : Launch) (t : Int32) : pmI l y_M_primitive b_M_primitive 1 .boolean 1 22 [.int t] (fun r => r = f_M_primitive t) := by
  refine pm_of (by decide) (Nat.le_of_ble_eq_true rfl) ?_
  intro p e s m below meth c ls hx hb hF hr hlk hN hl
  have hl : lv_has ls 1 [(0, .int t)] := hl
  refine lv_iload_n hx hb d_M_primitive_0 rfl (lv_at hl 0 rfl) ?_
  refine lv_iconst (v := 0) hx hb d_M_primitive_1 (by decide) ?_
  refine lv_bipush (v := 8) hx hb d_M_primitive_2 (by decide) ?_
  refine pm_callE hF hN (c_M_in l t 0 8) k_M_in j_M_26 ⟨Nat.le_of_ble_eq_true rfl, Nat.le_of_ble_eq_true rfl⟩ rfl hl.1 (Nat.le_of_ble_eq_true rfl) d_M_primitive_4 ⟨Nat.le_refl _, Nat.le_refl _⟩ ?_
  exact pm_ret hx hb hr hlk (nar_z (z_M_in t 0 8)) rfl d_M_primitive_7
def f_M_isInterface (t : Int32) : Int32 := (if t = 10 then 1 else (if t = 12 then 1 else (if t = 13 then 1 else (if t = 20 then 1 else 0))))
set_option maxRecDepth 100000 in
theorem z_M_isInterface (t : Int32) : f_M_isInterface t = 0 ∨ f_M_isInterface t = 1 := by
  unfold f_M_isInterface
  repeat' first | with_reducible refine z_ite ?_ ?_ | with_reducible exact Or.inl rfl | with_reducible exact Or.inr rfl
set_option maxRecDepth 100000 in
theorem k_M_isInterface : ck y_M_isInterface b_M_isInterface 1 (some .boolean) 1 (.static y_M_isInterface) := ⟨tk_of (List.mem_of_getElem? (i := 782) rfl) rfl, tk_of (List.mem_of_getElem? (i := 781) (by decide +kernel)) rfl, tk_of (List.mem_of_getElem? (i := 43) (by decide +kernel)) rfl, by decide +kernel⟩
set_option maxHeartbeats 4000000 in
set_option maxRecDepth 100000 in
theorem c_M_isInterface (l : Launch) (t : Int32) : pmI l y_M_isInterface b_M_isInterface 1 .boolean 0 0 [.int t] (fun r => r = f_M_isInterface t) := by
  refine pm_of (by decide) (Nat.le_of_ble_eq_true rfl) ?_
  intro p e s m below meth c ls hx hb hF hr hlk hN hl
  have hl : lv_has ls 1 [(0, .int t)] := hl
  refine lv_iload_n hx hb d_M_isInterface_0 rfl (lv_at hl 0 rfl) ?_
  refine lv_bipush (v := 10) hx hb d_M_isInterface_1 (by decide) ?_
  refine lv_icmp_eq (tgt := 24) hx hb d_M_isInterface_3 (by decide) (fun c_1 => ?_) (fun c_1 => ?_)
  · skip
    refine lv_iconst (v := 1) hx hb d_M_isInterface_24 (by decide) ?_
    refine lv_goto (tgt := 29) hx hb d_M_isInterface_25 (by decide) ?_
    exact pm_ret hx hb hr hlk (by decide) (by rw [f_M_isInterface, if_pos c_1]) d_M_isInterface_29
  · skip
    refine lv_iload_n hx hb d_M_isInterface_6 rfl (lv_at hl 0 rfl) ?_
    refine lv_bipush (v := 12) hx hb d_M_isInterface_7 (by decide) ?_
    refine lv_icmp_eq (tgt := 24) hx hb d_M_isInterface_9 (by decide) (fun c_2 => ?_) (fun c_2 => ?_)
    · skip
      refine lv_iconst (v := 1) hx hb d_M_isInterface_24 (by decide) ?_
      refine lv_goto (tgt := 29) hx hb d_M_isInterface_25 (by decide) ?_
      exact pm_ret hx hb hr hlk (by decide) (by rw [f_M_isInterface, if_neg c_1, if_pos c_2]) d_M_isInterface_29
    · skip
      refine lv_iload_n hx hb d_M_isInterface_12 rfl (lv_at hl 0 rfl) ?_
      refine lv_bipush (v := 13) hx hb d_M_isInterface_13 (by decide) ?_
      refine lv_icmp_eq (tgt := 24) hx hb d_M_isInterface_15 (by decide) (fun c_3 => ?_) (fun c_3 => ?_)
      · skip
        refine lv_iconst (v := 1) hx hb d_M_isInterface_24 (by decide) ?_
        refine lv_goto (tgt := 29) hx hb d_M_isInterface_25 (by decide) ?_
        exact pm_ret hx hb hr hlk (by decide) (by rw [f_M_isInterface, if_neg c_1, if_neg c_2, if_pos c_3]) d_M_isInterface_29
      · skip
        refine lv_iload_n hx hb d_M_isInterface_18 rfl (lv_at hl 0 rfl) ?_
        refine lv_bipush (v := 20) hx hb d_M_isInterface_19 (by decide) ?_
        refine lv_icmp_ne (tgt := 28) hx hb d_M_isInterface_21 (by decide) (fun c_4 => ?_) (fun c_4 => ?_)
        · skip
          refine lv_iconst (v := 0) hx hb d_M_isInterface_28 (by decide) ?_
          exact pm_ret hx hb hr hlk (by decide) (by rw [f_M_isInterface, if_neg c_1, if_neg c_2, if_neg c_3, if_neg c_4]) d_M_isInterface_29
        · skip
          refine lv_iconst (v := 1) hx hb d_M_isInterface_24 (by decide) ?_
          refine lv_goto (tgt := 29) hx hb d_M_isInterface_25 (by decide) ?_
          exact pm_ret hx hb hr hlk (by decide) (by rw [f_M_isInterface, if_neg c_1, if_neg c_2, if_neg c_3, if_pos c_4]) d_M_isInterface_29
def f_M_nameless (t : Int32) : Int32 := (if t = 17 then 1 else (if t = 24 then 1 else 0))
set_option maxRecDepth 100000 in
theorem z_M_nameless (t : Int32) : f_M_nameless t = 0 ∨ f_M_nameless t = 1 := by
  unfold f_M_nameless
  repeat' first | with_reducible refine z_ite ?_ ?_ | with_reducible exact Or.inl rfl | with_reducible exact Or.inr rfl
set_option maxRecDepth 100000 in
theorem k_M_nameless : ck y_M_nameless b_M_nameless 1 (some .boolean) 1 (.static y_M_nameless) := ⟨tk_of (List.mem_of_getElem? (i := 774) rfl) rfl, tk_of (List.mem_of_getElem? (i := 773) (by decide +kernel)) rfl, tk_of (List.mem_of_getElem? (i := 43) (by decide +kernel)) rfl, by decide +kernel⟩
set_option maxHeartbeats 4000000 in
set_option maxRecDepth 100000 in
theorem c_M_nameless (l : Launch) (t : Int32) : pmI l y_M_nameless b_M_nameless 1 .boolean 0 0 [.int t] (fun r => r = f_M_nameless t) := by
  refine pm_of (by decide) (Nat.le_of_ble_eq_true rfl) ?_
  intro p e s m below meth c ls hx hb hF hr hlk hN hl
  have hl : lv_has ls 1 [(0, .int t)] := hl
  refine lv_iload_n hx hb d_M_nameless_0 rfl (lv_at hl 0 rfl) ?_
  refine lv_bipush (v := 17) hx hb d_M_nameless_1 (by decide) ?_
  refine lv_icmp_eq (tgt := 12) hx hb d_M_nameless_3 (by decide) (fun c_1 => ?_) (fun c_1 => ?_)
  · skip
    refine lv_iconst (v := 1) hx hb d_M_nameless_12 (by decide) ?_
    refine lv_goto (tgt := 17) hx hb d_M_nameless_13 (by decide) ?_
    exact pm_ret hx hb hr hlk (by decide) (by rw [f_M_nameless, if_pos c_1]) d_M_nameless_17
  · skip
    refine lv_iload_n hx hb d_M_nameless_6 rfl (lv_at hl 0 rfl) ?_
    refine lv_bipush (v := 24) hx hb d_M_nameless_7 (by decide) ?_
    refine lv_icmp_ne (tgt := 16) hx hb d_M_nameless_9 (by decide) (fun c_2 => ?_) (fun c_2 => ?_)
    · skip
      refine lv_iconst (v := 0) hx hb d_M_nameless_16 (by decide) ?_
      exact pm_ret hx hb hr hlk (by decide) (by rw [f_M_nameless, if_neg c_1, if_neg c_2]) d_M_nameless_17
    · skip
      refine lv_iconst (v := 1) hx hb d_M_nameless_12 (by decide) ?_
      refine lv_goto (tgt := 17) hx hb d_M_nameless_13 (by decide) ?_
      exact pm_ret hx hb hr hlk (by decide) (by rw [f_M_nameless, if_neg c_1, if_pos c_2]) d_M_nameless_17
def f_M_member (t : Int32) : Int32 := (if (f_M_in t 12 22) = 0 then 0 else (if t = 17 then 0 else 1))
set_option maxRecDepth 100000 in
theorem z_M_member (t : Int32) : f_M_member t = 0 ∨ f_M_member t = 1 := by
  unfold f_M_member
  repeat' first | with_reducible refine z_ite ?_ ?_ | with_reducible exact z_M_in _ _ _ | with_reducible exact Or.inl rfl | with_reducible exact Or.inr rfl
set_option maxRecDepth 100000 in
theorem k_M_member : ck y_M_member b_M_member 1 (some .boolean) 1 (.static y_M_member) := ⟨tk_of (List.mem_of_getElem? (i := 818) rfl) rfl, tk_of (List.mem_of_getElem? (i := 817) (by decide +kernel)) rfl, tk_of (List.mem_of_getElem? (i := 43) (by decide +kernel)) rfl, by decide +kernel⟩
set_option maxHeartbeats 4000000 in
set_option maxRecDepth 100000 in
theorem c_M_member (l : Launch) (t : Int32) : pmI l y_M_member b_M_member 1 .boolean 1 22 [.int t] (fun r => r = f_M_member t) := by
  refine pm_of (by decide) (Nat.le_of_ble_eq_true rfl) ?_
  intro p e s m below meth c ls hx hb hF hr hlk hN hl
  have hl : lv_has ls 1 [(0, .int t)] := hl
  refine lv_iload_n hx hb d_M_member_0 rfl (lv_at hl 0 rfl) ?_
  refine lv_bipush (v := 12) hx hb d_M_member_1 (by decide) ?_
  refine lv_bipush (v := 22) hx hb d_M_member_3 (by decide) ?_
  refine pm_callE hF hN (c_M_in l t 12 22) k_M_in j_M_26 ⟨Nat.le_of_ble_eq_true rfl, Nat.le_of_ble_eq_true rfl⟩ rfl hl.1 (Nat.le_of_ble_eq_true rfl) d_M_member_5 ⟨Nat.le_refl _, Nat.le_refl _⟩ ?_
  refine lv_if_eq (tgt := 21) hx hb d_M_member_8 (by decide) (fun c_2 => ?_) (fun c_2 => ?_)
  · skip
    refine lv_iconst (v := 0) hx hb d_M_member_21 (by decide) ?_
    exact pm_ret hx hb hr hlk (by decide) (by rw [f_M_member, if_pos c_2]) d_M_member_22
  · skip
    refine lv_iload_n hx hb d_M_member_11 rfl (lv_at hl 0 rfl) ?_
    refine lv_bipush (v := 17) hx hb d_M_member_12 (by decide) ?_
    refine lv_icmp_eq (tgt := 21) hx hb d_M_member_14 (by decide) (fun c_3 => ?_) (fun c_3 => ?_)
    · skip
      refine lv_iconst (v := 0) hx hb d_M_member_21 (by decide) ?_
      exact pm_ret hx hb hr hlk (by decide) (by rw [f_M_member, if_neg c_2, if_pos c_3]) d_M_member_22
    · skip
      refine lv_iconst (v := 1) hx hb d_M_member_17 (by decide) ?_
      refine lv_goto (tgt := 22) hx hb d_M_member_18 (by decide) ?_
      exact pm_ret hx hb hr hlk (by decide) (by rw [f_M_member, if_neg c_2, if_neg c_3]) d_M_member_22
def f_M_plain (t : Int32) : Int32 := (t - t / 40 * 40)
set_option maxRecDepth 100000 in
theorem k_M_plain : ck y_M_plain b_M_plain 1 (some .int) 1 (.static y_M_plain) := ⟨tk_of (List.mem_of_getElem? (i := 708) rfl) rfl, tk_of (List.mem_of_getElem? (i := 707) (by decide +kernel)) rfl, tk_of (List.mem_of_getElem? (i := 43) (by decide +kernel)) rfl, by decide +kernel⟩
set_option maxHeartbeats 4000000 in
set_option maxRecDepth 100000 in
theorem c_M_plain (l : Launch) (t : Int32) : pmI l y_M_plain b_M_plain 1 .int 0 0 [.int t] (fun r => r = f_M_plain t) := by
  refine pm_of (by decide) (Nat.le_of_ble_eq_true rfl) ?_
  intro p e s m below meth c ls hx hb hF hr hlk hN hl
  have hl : lv_has ls 1 [(0, .int t)] := hl
  refine lv_iload_n hx hb d_M_plain_0 rfl (lv_at hl 0 rfl) ?_
  refine lv_bipush (v := 40) hx hb d_M_plain_1 (by decide) ?_
  refine lv_irem hx hb d_M_plain_3 (by decide) ?_
  exact pm_ret hx hb hr hlk (nar_i _) rfl d_M_plain_4
def f_M_levels (t : Int32) : Int32 := (t / 40)
set_option maxRecDepth 100000 in
theorem k_M_levels : ck y_M_levels b_M_levels 1 (some .int) 1 (.static y_M_levels) := ⟨tk_of (List.mem_of_getElem? (i := 715) rfl) rfl, tk_of (List.mem_of_getElem? (i := 714) (by decide +kernel)) rfl, tk_of (List.mem_of_getElem? (i := 43) (by decide +kernel)) rfl, by decide +kernel⟩
set_option maxHeartbeats 4000000 in
set_option maxRecDepth 100000 in
theorem c_M_levels (l : Launch) (t : Int32) : pmI l y_M_levels b_M_levels 1 .int 0 0 [.int t] (fun r => r = f_M_levels t) := by
  refine pm_of (by decide) (Nat.le_of_ble_eq_true rfl) ?_
  intro p e s m below meth c ls hx hb hF hr hlk hN hl
  have hl : lv_has ls 1 [(0, .int t)] := hl
  refine lv_iload_n hx hb d_M_levels_0 rfl (lv_at hl 0 rfl) ?_
  refine lv_bipush (v := 40) hx hb d_M_levels_1 (by decide) ?_
  refine lv_idiv hx hb d_M_levels_3 (by decide) ?_
  exact pm_ret hx hb hr hlk (nar_i _) rfl d_M_levels_4
def f_M_up (t : Int32) : Int32 := (if t < 40 then (if t < 10 then (-2) else (if (f_M_isInterface t) = 0 then (if t = 14 then (-3) else (if t = 16 then (-3) else (if t = 17 then 16 else (if t = 22 then 21 else (if t = 23 then 22 else 9))))) else (-2))) else 9)
set_option maxRecDepth 100000 in
theorem k_M_up : ck y_M_up b_M_up 1 (some .int) 1 (.static y_M_up) := ⟨tk_of (List.mem_of_getElem? (i := 829) rfl) rfl, tk_of (List.mem_of_getElem? (i := 828) (by decide +kernel)) rfl, tk_of (List.mem_of_getElem? (i := 43) (by decide +kernel)) rfl, by decide +kernel⟩
theorem j_M_159 : Cond.methodLink R_M 159 y_M_isInterface ∈ tk := tk_of (List.mem_of_getElem? (i := 780) (by decide +kernel)) rfl
set_option maxHeartbeats 4000000 in
set_option maxRecDepth 100000 in
theorem c_M_up (l : Launch) (t : Int32) : pmI l y_M_up b_M_up 1 .int 1 20 [.int t] (fun r => r = f_M_up t) := by
  refine pm_of (by decide) (Nat.le_of_ble_eq_true rfl) ?_
  intro p e s m below meth c ls hx hb hF hr hlk hN hl
  have hl : lv_has ls 1 [(0, .int t)] := hl
  refine lv_iload_n hx hb d_M_up_0 rfl (lv_at hl 0 rfl) ?_
  refine lv_bipush (v := 40) hx hb d_M_up_1 (by decide) ?_
  refine lv_icmp_lt (tgt := 9) hx hb d_M_up_3 (by decide) (fun c_1 => ?_) (fun c_1 => ?_)
  · skip
    refine lv_iload_n hx hb d_M_up_9 rfl (lv_at hl 0 rfl) ?_
    refine lv_bipush (v := 10) hx hb d_M_up_10 (by decide) ?_
    refine lv_icmp_lt (tgt := 22) hx hb d_M_up_12 (by decide) (fun c_2 => ?_) (fun c_2 => ?_)
    · skip
      refine lv_bipush (v := (-2)) hx hb d_M_up_22 (by decide) ?_
      exact pm_ret hx hb hr hlk (nar_i _) (by rw [f_M_up, if_pos c_1, if_pos c_2]) d_M_up_24
    · skip
      refine lv_iload_n hx hb d_M_up_15 rfl (lv_at hl 0 rfl) ?_
      refine pm_callE hF hN (c_M_isInterface l t) k_M_isInterface j_M_159 ⟨Nat.le_of_ble_eq_true rfl, Nat.le_of_ble_eq_true rfl⟩ rfl hl.1 (Nat.le_of_ble_eq_true rfl) d_M_up_16 ⟨Nat.le_refl _, Nat.le_refl _⟩ ?_
      refine lv_if_eq (tgt := 25) hx hb d_M_up_19 (by decide) (fun c_4 => ?_) (fun c_4 => ?_)
      · skip
        refine lv_iload_n hx hb d_M_up_25 rfl (lv_at hl 0 rfl) ?_
        refine lv_bipush (v := 14) hx hb d_M_up_26 (by decide) ?_
        refine lv_icmp_eq (tgt := 37) hx hb d_M_up_28 (by decide) (fun c_5 => ?_) (fun c_5 => ?_)
        · skip
          refine lv_bipush (v := (-3)) hx hb d_M_up_37 (by decide) ?_
          exact pm_ret hx hb hr hlk (nar_i _) (by rw [f_M_up, if_pos c_1, if_neg c_2, if_pos c_4, if_pos c_5]) d_M_up_39
        · skip
          refine lv_iload_n hx hb d_M_up_31 rfl (lv_at hl 0 rfl) ?_
          refine lv_bipush (v := 16) hx hb d_M_up_32 (by decide) ?_
          refine lv_icmp_ne (tgt := 40) hx hb d_M_up_34 (by decide) (fun c_6 => ?_) (fun c_6 => ?_)
          · skip
            refine lv_iload_n hx hb d_M_up_40 rfl (lv_at hl 0 rfl) ?_
            refine lv_bipush (v := 17) hx hb d_M_up_41 (by decide) ?_
            refine lv_icmp_ne (tgt := 51) hx hb d_M_up_43 (by decide) (fun c_7 => ?_) (fun c_7 => ?_)
            · skip
              refine lv_iload_n hx hb d_M_up_51 rfl (lv_at hl 0 rfl) ?_
              refine lv_bipush (v := 22) hx hb d_M_up_52 (by decide) ?_
              refine lv_icmp_ne (tgt := 62) hx hb d_M_up_54 (by decide) (fun c_8 => ?_) (fun c_8 => ?_)
              · skip
                refine lv_iload_n hx hb d_M_up_62 rfl (lv_at hl 0 rfl) ?_
                refine lv_bipush (v := 23) hx hb d_M_up_63 (by decide) ?_
                refine lv_icmp_ne (tgt := 73) hx hb d_M_up_65 (by decide) (fun c_9 => ?_) (fun c_9 => ?_)
                · skip
                  refine lv_bipush (v := 9) hx hb d_M_up_73 (by decide) ?_
                  exact pm_ret hx hb hr hlk (nar_i _) (by rw [f_M_up, if_pos c_1, if_neg c_2, if_pos c_4, if_neg c_5, if_neg c_6, if_neg c_7, if_neg c_8, if_neg c_9]) d_M_up_75
                · skip
                  refine lv_bipush (v := 22) hx hb d_M_up_68 (by decide) ?_
                  refine lv_goto (tgt := 75) hx hb d_M_up_70 (by decide) ?_
                  exact pm_ret hx hb hr hlk (nar_i _) (by rw [f_M_up, if_pos c_1, if_neg c_2, if_pos c_4, if_neg c_5, if_neg c_6, if_neg c_7, if_neg c_8, if_pos c_9]) d_M_up_75
              · skip
                refine lv_bipush (v := 21) hx hb d_M_up_57 (by decide) ?_
                refine lv_goto (tgt := 75) hx hb d_M_up_59 (by decide) ?_
                exact pm_ret hx hb hr hlk (nar_i _) (by rw [f_M_up, if_pos c_1, if_neg c_2, if_pos c_4, if_neg c_5, if_neg c_6, if_neg c_7, if_pos c_8]) d_M_up_75
            · skip
              refine lv_bipush (v := 16) hx hb d_M_up_46 (by decide) ?_
              refine lv_goto (tgt := 75) hx hb d_M_up_48 (by decide) ?_
              exact pm_ret hx hb hr hlk (nar_i _) (by rw [f_M_up, if_pos c_1, if_neg c_2, if_pos c_4, if_neg c_5, if_neg c_6, if_pos c_7]) d_M_up_75
          · skip
            refine lv_bipush (v := (-3)) hx hb d_M_up_37 (by decide) ?_
            exact pm_ret hx hb hr hlk (nar_i _) (by rw [f_M_up, if_pos c_1, if_neg c_2, if_pos c_4, if_neg c_5, if_pos c_6]) d_M_up_39
      · skip
        refine lv_bipush (v := (-2)) hx hb d_M_up_22 (by decide) ?_
        exact pm_ret hx hb hr hlk (nar_i _) (by rw [f_M_up, if_pos c_1, if_neg c_2, if_neg c_4]) d_M_up_24
  · skip
    refine lv_bipush (v := 9) hx hb d_M_up_6 (by decide) ?_
    exact pm_ret hx hb hr hlk (nar_i _) (by rw [f_M_up, if_neg c_1]) d_M_up_8
def f_M_standsIn (t : Int32) : Int32 := (if (f_M_in t 12 24) = 0 then (-2) else (if t = 17 then 16 else (if t = 19 then 18 else 11)))
set_option maxRecDepth 100000 in
theorem k_M_standsIn : ck y_M_standsIn b_M_standsIn 1 (some .int) 1 (.static y_M_standsIn) := ⟨tk_of (List.mem_of_getElem? (i := 832) rfl) rfl, tk_of (List.mem_of_getElem? (i := 831) (by decide +kernel)) rfl, tk_of (List.mem_of_getElem? (i := 43) (by decide +kernel)) rfl, by decide +kernel⟩
set_option maxHeartbeats 4000000 in
set_option maxRecDepth 100000 in
theorem c_M_standsIn (l : Launch) (t : Int32) : pmI l y_M_standsIn b_M_standsIn 1 .int 1 22 [.int t] (fun r => r = f_M_standsIn t) := by
  refine pm_of (by decide) (Nat.le_of_ble_eq_true rfl) ?_
  intro p e s m below meth c ls hx hb hF hr hlk hN hl
  have hl : lv_has ls 1 [(0, .int t)] := hl
  refine lv_iload_n hx hb d_M_standsIn_0 rfl (lv_at hl 0 rfl) ?_
  refine lv_bipush (v := 12) hx hb d_M_standsIn_1 (by decide) ?_
  refine lv_bipush (v := 24) hx hb d_M_standsIn_3 (by decide) ?_
  refine pm_callE hF hN (c_M_in l t 12 24) k_M_in j_M_26 ⟨Nat.le_of_ble_eq_true rfl, Nat.le_of_ble_eq_true rfl⟩ rfl hl.1 (Nat.le_of_ble_eq_true rfl) d_M_standsIn_5 ⟨Nat.le_refl _, Nat.le_refl _⟩ ?_
  refine lv_if_ne (tgt := 14) hx hb d_M_standsIn_8 (by decide) (fun c_2 => ?_) (fun c_2 => ?_)
  · skip
    refine lv_iload_n hx hb d_M_standsIn_14 rfl (lv_at hl 0 rfl) ?_
    refine lv_bipush (v := 17) hx hb d_M_standsIn_15 (by decide) ?_
    refine lv_icmp_ne (tgt := 25) hx hb d_M_standsIn_17 (by decide) (fun c_3 => ?_) (fun c_3 => ?_)
    · skip
      refine lv_iload_n hx hb d_M_standsIn_25 rfl (lv_at hl 0 rfl) ?_
      refine lv_bipush (v := 19) hx hb d_M_standsIn_26 (by decide) ?_
      refine lv_icmp_ne (tgt := 36) hx hb d_M_standsIn_28 (by decide) (fun c_4 => ?_) (fun c_4 => ?_)
      · skip
        refine lv_bipush (v := 11) hx hb d_M_standsIn_36 (by decide) ?_
        exact pm_ret hx hb hr hlk (nar_i _) (by rw [f_M_standsIn, if_neg c_2, if_neg c_3, if_neg c_4]) d_M_standsIn_38
      · skip
        refine lv_bipush (v := 18) hx hb d_M_standsIn_31 (by decide) ?_
        refine lv_goto (tgt := 38) hx hb d_M_standsIn_33 (by decide) ?_
        exact pm_ret hx hb hr hlk (nar_i _) (by rw [f_M_standsIn, if_neg c_2, if_neg c_3, if_pos c_4]) d_M_standsIn_38
    · skip
      refine lv_bipush (v := 16) hx hb d_M_standsIn_20 (by decide) ?_
      refine lv_goto (tgt := 38) hx hb d_M_standsIn_22 (by decide) ?_
      exact pm_ret hx hb hr hlk (nar_i _) (by rw [f_M_standsIn, if_neg c_2, if_pos c_3]) d_M_standsIn_38
  · skip
    refine lv_bipush (v := (-2)) hx hb d_M_standsIn_11 (by decide) ?_
    exact pm_ret hx hb hr hlk (nar_i _) (by rw [f_M_standsIn, if_pos c_2]) d_M_standsIn_13
def f_M_flag (t : Int32) (k : Int32) : Int32 := (if (f_M_isType t) = 0 then 0 else (if k = 0 then (if t < 40 then 0 else 1) else (if k = 1 then (f_M_primitive t) else (if k = 2 then (f_M_isInterface t) else (if k = 3 then (if t = 20 then 1 else 0) else (if k = 4 then (if t = 16 then 1 else 0) else (if k = 5 then (if t = 14 then 1 else 0) else (if k = 6 then (if t = 13 then 1 else (if t = 16 then 1 else 0)) else (if k = 7 then (f_M_nameless t) else (if k = 8 then (if t = 23 then 1 else 0) else (if k = 9 then (f_M_member t) else (if k = 10 then (if t = 23 then 1 else (if t = 24 then 1 else 0)) else 0))))))))))))
set_option maxRecDepth 100000 in
theorem z_M_flag (t : Int32) (k : Int32) : f_M_flag t k = 0 ∨ f_M_flag t k = 1 := by
  unfold f_M_flag
  repeat' first | with_reducible refine z_ite ?_ ?_ | with_reducible exact z_M_isInterface _ | with_reducible exact z_M_isType _ | with_reducible exact z_M_member _ | with_reducible exact z_M_nameless _ | with_reducible exact z_M_primitive _ | with_reducible exact Or.inl rfl | with_reducible exact Or.inr rfl
set_option maxRecDepth 100000 in
theorem k_M_flag : ck y_M_flag b_M_flag 3 (some .boolean) 2 (.instanceMethod y_M_flag) := ⟨tk_of (List.mem_of_getElem? (i := 815) rfl) rfl, tk_of (List.mem_of_getElem? (i := 813) (by decide +kernel)) rfl, tk_of (List.mem_of_getElem? (i := 43) (by decide +kernel)) rfl, by decide +kernel⟩
theorem j_M_167 : Cond.methodLink R_M 167 y_M_isType ∈ tk := tk_of (List.mem_of_getElem? (i := 696) (by decide +kernel)) rfl
theorem j_M_102 : Cond.methodLink R_M 102 y_M_primitive ∈ tk := tk_of (List.mem_of_getElem? (i := 724) (by decide +kernel)) rfl
theorem j_M_151 : Cond.methodLink R_M 151 y_M_nameless ∈ tk := tk_of (List.mem_of_getElem? (i := 772) (by decide +kernel)) rfl
theorem j_M_174 : Cond.methodLink R_M 174 y_M_member ∈ tk := tk_of (List.mem_of_getElem? (i := 816) (by decide +kernel)) rfl
set_option maxHeartbeats 4000000 in
set_option maxRecDepth 100000 in
theorem c_M_flag (l : Launch) (h0 : Nat) (t : Int32) (k : Int32) : pmI l y_M_flag b_M_flag 3 .boolean 2 42 [.ref h0, .int t, .int k] (fun r => r = f_M_flag t k) := by
  refine pm_of (by decide) (Nat.le_of_ble_eq_true rfl) ?_
  intro p e s m below meth c ls hx hb hF hr hlk hN hl
  have hl : lv_has ls 3 [(0, .ref h0), (1, .int t), (2, .int k)] := hl
  refine lv_iload_n hx hb d_M_flag_0 rfl (lv_at hl 1 rfl) ?_
  refine pm_callE hF hN (c_M_isType l t) k_M_isType j_M_167 ⟨Nat.le_of_ble_eq_true rfl, Nat.le_of_ble_eq_true rfl⟩ rfl hl.1 (Nat.le_of_ble_eq_true rfl) d_M_flag_1 ⟨Nat.le_refl _, Nat.le_refl _⟩ ?_
  refine lv_if_ne (tgt := 9) hx hb d_M_flag_4 (by decide) (fun c_2 => ?_) (fun c_2 => ?_)
  · skip
    refine lv_iload_n hx hb d_M_flag_9 rfl (lv_at hl 2 rfl) ?_
    by_cases c_3 : k = 0
    · refine lv_tableIn (tgt := 64) (off := 54) hx hb d_M_flag_10 (by rw [c_3]; decide) (by rw [c_3]; decide) (by rw [c_3]; decide) (by decide) ?_
      refine lv_iload_n hx hb d_M_flag_64 rfl (lv_at hl 1 rfl) ?_
      refine lv_bipush (v := 40) hx hb d_M_flag_65 (by decide) ?_
      refine lv_icmp_lt (tgt := 74) hx hb d_M_flag_67 (by decide) (fun c_4 => ?_) (fun c_4 => ?_)
      · skip
        refine lv_iconst (v := 0) hx hb d_M_flag_74 (by decide) ?_
        exact pm_ret hx hb hr hlk (by decide) (by rw [f_M_flag, if_neg c_2, if_pos c_3, if_pos c_4]) d_M_flag_75
      · skip
        refine lv_iconst (v := 1) hx hb d_M_flag_70 (by decide) ?_
        refine lv_goto (tgt := 75) hx hb d_M_flag_71 (by decide) ?_
        exact pm_ret hx hb hr hlk (by decide) (by rw [f_M_flag, if_neg c_2, if_pos c_3, if_neg c_4]) d_M_flag_75
    by_cases c_5 : k = 1
    · refine lv_tableIn (tgt := 76) (off := 66) hx hb d_M_flag_10 (by rw [c_5]; decide) (by rw [c_5]; decide) (by rw [c_5]; decide) (by decide) ?_
      refine lv_iload_n hx hb d_M_flag_76 rfl (lv_at hl 1 rfl) ?_
      refine pm_callE hF hN (c_M_primitive l t) k_M_primitive j_M_102 ⟨Nat.le_of_ble_eq_true rfl, Nat.le_of_ble_eq_true rfl⟩ rfl hl.1 (Nat.le_of_ble_eq_true rfl) d_M_flag_77 ⟨Nat.le_refl _, Nat.le_refl _⟩ ?_
      exact pm_ret hx hb hr hlk (nar_z (z_M_primitive t)) (by rw [f_M_flag, if_neg c_2, if_neg c_3, if_pos c_5]) d_M_flag_80
    by_cases c_7 : k = 2
    · refine lv_tableIn (tgt := 81) (off := 71) hx hb d_M_flag_10 (by rw [c_7]; decide) (by rw [c_7]; decide) (by rw [c_7]; decide) (by decide) ?_
      refine lv_iload_n hx hb d_M_flag_81 rfl (lv_at hl 1 rfl) ?_
      refine pm_callE hF hN (c_M_isInterface l t) k_M_isInterface j_M_159 ⟨Nat.le_of_ble_eq_true rfl, Nat.le_of_ble_eq_true rfl⟩ rfl hl.1 (Nat.le_of_ble_eq_true rfl) d_M_flag_82 ⟨Nat.le_refl _, Nat.le_refl _⟩ ?_
      exact pm_ret hx hb hr hlk (nar_z (z_M_isInterface t)) (by rw [f_M_flag, if_neg c_2, if_neg c_3, if_neg c_5, if_pos c_7]) d_M_flag_85
    by_cases c_9 : k = 3
    · refine lv_tableIn (tgt := 86) (off := 76) hx hb d_M_flag_10 (by rw [c_9]; decide) (by rw [c_9]; decide) (by rw [c_9]; decide) (by decide) ?_
      refine lv_iload_n hx hb d_M_flag_86 rfl (lv_at hl 1 rfl) ?_
      refine lv_bipush (v := 20) hx hb d_M_flag_87 (by decide) ?_
      refine lv_icmp_ne (tgt := 96) hx hb d_M_flag_89 (by decide) (fun c_10 => ?_) (fun c_10 => ?_)
      · skip
        refine lv_iconst (v := 0) hx hb d_M_flag_96 (by decide) ?_
        exact pm_ret hx hb hr hlk (by decide) (by rw [f_M_flag, if_neg c_2, if_neg c_3, if_neg c_5, if_neg c_7, if_pos c_9, if_neg c_10]) d_M_flag_97
      · skip
        refine lv_iconst (v := 1) hx hb d_M_flag_92 (by decide) ?_
        refine lv_goto (tgt := 97) hx hb d_M_flag_93 (by decide) ?_
        exact pm_ret hx hb hr hlk (by decide) (by rw [f_M_flag, if_neg c_2, if_neg c_3, if_neg c_5, if_neg c_7, if_pos c_9, if_pos c_10]) d_M_flag_97
    by_cases c_11 : k = 4
    · refine lv_tableIn (tgt := 98) (off := 88) hx hb d_M_flag_10 (by rw [c_11]; decide) (by rw [c_11]; decide) (by rw [c_11]; decide) (by decide) ?_
      refine lv_iload_n hx hb d_M_flag_98 rfl (lv_at hl 1 rfl) ?_
      refine lv_bipush (v := 16) hx hb d_M_flag_99 (by decide) ?_
      refine lv_icmp_ne (tgt := 108) hx hb d_M_flag_101 (by decide) (fun c_12 => ?_) (fun c_12 => ?_)
      · skip
        refine lv_iconst (v := 0) hx hb d_M_flag_108 (by decide) ?_
        exact pm_ret hx hb hr hlk (by decide) (by rw [f_M_flag, if_neg c_2, if_neg c_3, if_neg c_5, if_neg c_7, if_neg c_9, if_pos c_11, if_neg c_12]) d_M_flag_109
      · skip
        refine lv_iconst (v := 1) hx hb d_M_flag_104 (by decide) ?_
        refine lv_goto (tgt := 109) hx hb d_M_flag_105 (by decide) ?_
        exact pm_ret hx hb hr hlk (by decide) (by rw [f_M_flag, if_neg c_2, if_neg c_3, if_neg c_5, if_neg c_7, if_neg c_9, if_pos c_11, if_pos c_12]) d_M_flag_109
    by_cases c_13 : k = 5
    · refine lv_tableIn (tgt := 110) (off := 100) hx hb d_M_flag_10 (by rw [c_13]; decide) (by rw [c_13]; decide) (by rw [c_13]; decide) (by decide) ?_
      refine lv_iload_n hx hb d_M_flag_110 rfl (lv_at hl 1 rfl) ?_
      refine lv_bipush (v := 14) hx hb d_M_flag_111 (by decide) ?_
      refine lv_icmp_ne (tgt := 120) hx hb d_M_flag_113 (by decide) (fun c_14 => ?_) (fun c_14 => ?_)
      · skip
        refine lv_iconst (v := 0) hx hb d_M_flag_120 (by decide) ?_
        exact pm_ret hx hb hr hlk (by decide) (by rw [f_M_flag, if_neg c_2, if_neg c_3, if_neg c_5, if_neg c_7, if_neg c_9, if_neg c_11, if_pos c_13, if_neg c_14]) d_M_flag_121
      · skip
        refine lv_iconst (v := 1) hx hb d_M_flag_116 (by decide) ?_
        refine lv_goto (tgt := 121) hx hb d_M_flag_117 (by decide) ?_
        exact pm_ret hx hb hr hlk (by decide) (by rw [f_M_flag, if_neg c_2, if_neg c_3, if_neg c_5, if_neg c_7, if_neg c_9, if_neg c_11, if_pos c_13, if_pos c_14]) d_M_flag_121
    by_cases c_15 : k = 6
    · refine lv_tableIn (tgt := 122) (off := 112) hx hb d_M_flag_10 (by rw [c_15]; decide) (by rw [c_15]; decide) (by rw [c_15]; decide) (by decide) ?_
      refine lv_iload_n hx hb d_M_flag_122 rfl (lv_at hl 1 rfl) ?_
      refine lv_bipush (v := 13) hx hb d_M_flag_123 (by decide) ?_
      refine lv_icmp_eq (tgt := 134) hx hb d_M_flag_125 (by decide) (fun c_16 => ?_) (fun c_16 => ?_)
      · skip
        refine lv_iconst (v := 1) hx hb d_M_flag_134 (by decide) ?_
        refine lv_goto (tgt := 139) hx hb d_M_flag_135 (by decide) ?_
        exact pm_ret hx hb hr hlk (by decide) (by rw [f_M_flag, if_neg c_2, if_neg c_3, if_neg c_5, if_neg c_7, if_neg c_9, if_neg c_11, if_neg c_13, if_pos c_15, if_pos c_16]) d_M_flag_139
      · skip
        refine lv_iload_n hx hb d_M_flag_128 rfl (lv_at hl 1 rfl) ?_
        refine lv_bipush (v := 16) hx hb d_M_flag_129 (by decide) ?_
        refine lv_icmp_ne (tgt := 138) hx hb d_M_flag_131 (by decide) (fun c_17 => ?_) (fun c_17 => ?_)
        · skip
          refine lv_iconst (v := 0) hx hb d_M_flag_138 (by decide) ?_
          exact pm_ret hx hb hr hlk (by decide) (by rw [f_M_flag, if_neg c_2, if_neg c_3, if_neg c_5, if_neg c_7, if_neg c_9, if_neg c_11, if_neg c_13, if_pos c_15, if_neg c_16, if_neg c_17]) d_M_flag_139
        · skip
          refine lv_iconst (v := 1) hx hb d_M_flag_134 (by decide) ?_
          refine lv_goto (tgt := 139) hx hb d_M_flag_135 (by decide) ?_
          exact pm_ret hx hb hr hlk (by decide) (by rw [f_M_flag, if_neg c_2, if_neg c_3, if_neg c_5, if_neg c_7, if_neg c_9, if_neg c_11, if_neg c_13, if_pos c_15, if_neg c_16, if_pos c_17]) d_M_flag_139
    by_cases c_18 : k = 7
    · refine lv_tableIn (tgt := 140) (off := 130) hx hb d_M_flag_10 (by rw [c_18]; decide) (by rw [c_18]; decide) (by rw [c_18]; decide) (by decide) ?_
      refine lv_iload_n hx hb d_M_flag_140 rfl (lv_at hl 1 rfl) ?_
      refine pm_callE hF hN (c_M_nameless l t) k_M_nameless j_M_151 ⟨Nat.le_of_ble_eq_true rfl, Nat.le_of_ble_eq_true rfl⟩ rfl hl.1 (Nat.le_of_ble_eq_true rfl) d_M_flag_141 ⟨Nat.le_refl _, Nat.le_refl _⟩ ?_
      exact pm_ret hx hb hr hlk (nar_z (z_M_nameless t)) (by rw [f_M_flag, if_neg c_2, if_neg c_3, if_neg c_5, if_neg c_7, if_neg c_9, if_neg c_11, if_neg c_13, if_neg c_15, if_pos c_18]) d_M_flag_144
    by_cases c_20 : k = 8
    · refine lv_tableIn (tgt := 145) (off := 135) hx hb d_M_flag_10 (by rw [c_20]; decide) (by rw [c_20]; decide) (by rw [c_20]; decide) (by decide) ?_
      refine lv_iload_n hx hb d_M_flag_145 rfl (lv_at hl 1 rfl) ?_
      refine lv_bipush (v := 23) hx hb d_M_flag_146 (by decide) ?_
      refine lv_icmp_ne (tgt := 155) hx hb d_M_flag_148 (by decide) (fun c_21 => ?_) (fun c_21 => ?_)
      · skip
        refine lv_iconst (v := 0) hx hb d_M_flag_155 (by decide) ?_
        exact pm_ret hx hb hr hlk (by decide) (by rw [f_M_flag, if_neg c_2, if_neg c_3, if_neg c_5, if_neg c_7, if_neg c_9, if_neg c_11, if_neg c_13, if_neg c_15, if_neg c_18, if_pos c_20, if_neg c_21]) d_M_flag_156
      · skip
        refine lv_iconst (v := 1) hx hb d_M_flag_151 (by decide) ?_
        refine lv_goto (tgt := 156) hx hb d_M_flag_152 (by decide) ?_
        exact pm_ret hx hb hr hlk (by decide) (by rw [f_M_flag, if_neg c_2, if_neg c_3, if_neg c_5, if_neg c_7, if_neg c_9, if_neg c_11, if_neg c_13, if_neg c_15, if_neg c_18, if_pos c_20, if_pos c_21]) d_M_flag_156
    by_cases c_22 : k = 9
    · refine lv_tableIn (tgt := 157) (off := 147) hx hb d_M_flag_10 (by rw [c_22]; decide) (by rw [c_22]; decide) (by rw [c_22]; decide) (by decide) ?_
      refine lv_iload_n hx hb d_M_flag_157 rfl (lv_at hl 1 rfl) ?_
      refine pm_callE hF hN (c_M_member l t) k_M_member j_M_174 ⟨Nat.le_of_ble_eq_true rfl, Nat.le_of_ble_eq_true rfl⟩ rfl hl.1 (Nat.le_of_ble_eq_true rfl) d_M_flag_158 ⟨Nat.le_refl _, Nat.le_refl _⟩ ?_
      exact pm_ret hx hb hr hlk (nar_z (z_M_member t)) (by rw [f_M_flag, if_neg c_2, if_neg c_3, if_neg c_5, if_neg c_7, if_neg c_9, if_neg c_11, if_neg c_13, if_neg c_15, if_neg c_18, if_neg c_20, if_pos c_22]) d_M_flag_161
    refine lv_tableOut (tgt := 162) hx hb d_M_flag_10 (by have := lv_neT (a := 0) c_3 (by decide); have := lv_neT (a := 1) c_5 (by decide); have := lv_neT (a := 2) c_7 (by decide); have := lv_neT (a := 3) c_9 (by decide); have := lv_neT (a := 4) c_11 (by decide); have := lv_neT (a := 5) c_13 (by decide); have := lv_neT (a := 6) c_15 (by decide); have := lv_neT (a := 7) c_18 (by decide); have := lv_neT (a := 8) c_20 (by decide); have := lv_neT (a := 9) c_22 (by decide); omega) (by decide) ?_
    refine lv_iload_n hx hb d_M_flag_162 rfl (lv_at hl 2 rfl) ?_
    refine lv_bipush (v := 10) hx hb d_M_flag_163 (by decide) ?_
    refine lv_icmp_ne (tgt := 184) hx hb d_M_flag_165 (by decide) (fun c_24 => ?_) (fun c_24 => ?_)
    · skip
      refine lv_iconst (v := 0) hx hb d_M_flag_184 (by decide) ?_
      exact pm_ret hx hb hr hlk (by decide) (by rw [f_M_flag, if_neg c_2, if_neg c_3, if_neg c_5, if_neg c_7, if_neg c_9, if_neg c_11, if_neg c_13, if_neg c_15, if_neg c_18, if_neg c_20, if_neg c_22, if_neg c_24]) d_M_flag_185
    · skip
      refine lv_iload_n hx hb d_M_flag_168 rfl (lv_at hl 1 rfl) ?_
      refine lv_bipush (v := 23) hx hb d_M_flag_169 (by decide) ?_
      refine lv_icmp_eq (tgt := 180) hx hb d_M_flag_171 (by decide) (fun c_25 => ?_) (fun c_25 => ?_)
      · skip
        refine lv_iconst (v := 1) hx hb d_M_flag_180 (by decide) ?_
        refine lv_goto (tgt := 185) hx hb d_M_flag_181 (by decide) ?_
        exact pm_ret hx hb hr hlk (by decide) (by rw [f_M_flag, if_neg c_2, if_neg c_3, if_neg c_5, if_neg c_7, if_neg c_9, if_neg c_11, if_neg c_13, if_neg c_15, if_neg c_18, if_neg c_20, if_neg c_22, if_pos c_24, if_pos c_25]) d_M_flag_185
      · skip
        refine lv_iload_n hx hb d_M_flag_174 rfl (lv_at hl 1 rfl) ?_
        refine lv_bipush (v := 24) hx hb d_M_flag_175 (by decide) ?_
        refine lv_icmp_ne (tgt := 184) hx hb d_M_flag_177 (by decide) (fun c_26 => ?_) (fun c_26 => ?_)
        · skip
          refine lv_iconst (v := 0) hx hb d_M_flag_184 (by decide) ?_
          exact pm_ret hx hb hr hlk (by decide) (by rw [f_M_flag, if_neg c_2, if_neg c_3, if_neg c_5, if_neg c_7, if_neg c_9, if_neg c_11, if_neg c_13, if_neg c_15, if_neg c_18, if_neg c_20, if_neg c_22, if_pos c_24, if_neg c_25, if_neg c_26]) d_M_flag_185
        · skip
          refine lv_iconst (v := 1) hx hb d_M_flag_180 (by decide) ?_
          refine lv_goto (tgt := 185) hx hb d_M_flag_181 (by decide) ?_
          exact pm_ret hx hb hr hlk (by decide) (by rw [f_M_flag, if_neg c_2, if_neg c_3, if_neg c_5, if_neg c_7, if_neg c_9, if_neg c_11, if_neg c_13, if_neg c_15, if_neg c_18, if_neg c_20, if_neg c_22, if_pos c_24, if_neg c_25, if_pos c_26]) d_M_flag_185
  · skip
    refine lv_iconst (v := 0) hx hb d_M_flag_7 (by decide) ?_
    exact pm_ret hx hb hr hlk (by decide) (by rw [f_M_flag, if_pos c_2]) d_M_flag_8
def f_M_related (t : Int32) (k : Int32) : Int32 := (if (f_M_isType t) = 0 then (-1) else (if (f_M_in k 0 5) = 0 then (-1) else (if k = 0 then (f_M_up t) else (if k = 1 then (if t < 40 then (-2) else (t - 40)) else (if k = 2 then (f_M_standsIn t) else (if k = 3 then (if (f_M_member t) = 0 then (-2) else (f_M_standsIn t)) else (if k = 4 then (if (f_M_in t 11 24) = 0 then t else 11) else (if t = 8 then (-2) else (if 80 ≤ t then (-3) else (t + 40))))))))))
set_option maxRecDepth 100000 in
theorem k_M_related : ck y_M_related b_M_related 3 (some .int) 2 (.instanceMethod y_M_related) := ⟨tk_of (List.mem_of_getElem? (i := 826) rfl) rfl, tk_of (List.mem_of_getElem? (i := 824) (by decide +kernel)) rfl, tk_of (List.mem_of_getElem? (i := 43) (by decide +kernel)) rfl, by decide +kernel⟩
theorem j_M_183 : Cond.methodLink R_M 183 y_M_standsIn ∈ tk := tk_of (List.mem_of_getElem? (i := 830) (by decide +kernel)) rfl
theorem j_M_180 : Cond.methodLink R_M 180 y_M_up ∈ tk := tk_of (List.mem_of_getElem? (i := 827) (by decide +kernel)) rfl
set_option maxHeartbeats 4000000 in
set_option maxRecDepth 100000 in
theorem c_M_related (l : Launch) (h0 : Nat) (t : Int32) (k : Int32) : pmI l y_M_related b_M_related 3 .int 2 42 [.ref h0, .int t, .int k] (fun r => r = f_M_related t k) := by
  refine pm_of (by decide) (Nat.le_of_ble_eq_true rfl) ?_
  intro p e s m below meth c ls hx hb hF hr hlk hN hl
  have hl : lv_has ls 3 [(0, .ref h0), (1, .int t), (2, .int k)] := hl
  refine lv_iload_n hx hb d_M_related_0 rfl (lv_at hl 1 rfl) ?_
  refine pm_callE hF hN (c_M_isType l t) k_M_isType j_M_167 ⟨Nat.le_of_ble_eq_true rfl, Nat.le_of_ble_eq_true rfl⟩ rfl hl.1 (Nat.le_of_ble_eq_true rfl) d_M_related_1 ⟨Nat.le_refl _, Nat.le_refl _⟩ ?_
  refine lv_if_eq (tgt := 16) hx hb d_M_related_4 (by decide) (fun c_2 => ?_) (fun c_2 => ?_)
  · skip
    refine lv_iconst (v := (-1)) hx hb d_M_related_16 (by decide) ?_
    exact pm_ret hx hb hr hlk (nar_i _) (by rw [f_M_related, if_pos c_2]) d_M_related_17
  · skip
    refine lv_iload_n hx hb d_M_related_7 rfl (lv_at hl 2 rfl) ?_
    refine lv_iconst (v := 0) hx hb d_M_related_8 (by decide) ?_
    refine lv_iconst (v := 5) hx hb d_M_related_9 (by decide) ?_
    refine pm_callE hF hN (c_M_in l k 0 5) k_M_in j_M_26 ⟨Nat.le_of_ble_eq_true rfl, Nat.le_of_ble_eq_true rfl⟩ rfl hl.1 (Nat.le_of_ble_eq_true rfl) d_M_related_10 ⟨Nat.le_refl _, Nat.le_refl _⟩ ?_
    refine lv_if_ne (tgt := 18) hx hb d_M_related_13 (by decide) (fun c_4 => ?_) (fun c_4 => ?_)
    · skip
      refine lv_iload_n hx hb d_M_related_18 rfl (lv_at hl 2 rfl) ?_
      refine lv_if_ne (tgt := 27) hx hb d_M_related_19 (by decide) (fun c_5 => ?_) (fun c_5 => ?_)
      · skip
        refine lv_iload_n hx hb d_M_related_27 rfl (lv_at hl 2 rfl) ?_
        refine lv_iconst (v := 1) hx hb d_M_related_28 (by decide) ?_
        refine lv_icmp_ne (tgt := 48) hx hb d_M_related_29 (by decide) (fun c_6 => ?_) (fun c_6 => ?_)
        · skip
          refine lv_iload_n hx hb d_M_related_48 rfl (lv_at hl 2 rfl) ?_
          refine lv_iconst (v := 2) hx hb d_M_related_49 (by decide) ?_
          refine lv_icmp_ne (tgt := 58) hx hb d_M_related_50 (by decide) (fun c_7 => ?_) (fun c_7 => ?_)
          · skip
            refine lv_iload_n hx hb d_M_related_58 rfl (lv_at hl 2 rfl) ?_
            refine lv_iconst (v := 3) hx hb d_M_related_59 (by decide) ?_
            refine lv_icmp_ne (tgt := 80) hx hb d_M_related_60 (by decide) (fun c_8 => ?_) (fun c_8 => ?_)
            · skip
              refine lv_iload_n hx hb d_M_related_80 rfl (lv_at hl 2 rfl) ?_
              refine lv_iconst (v := 4) hx hb d_M_related_81 (by decide) ?_
              refine lv_icmp_ne (tgt := 103) hx hb d_M_related_82 (by decide) (fun c_9 => ?_) (fun c_9 => ?_)
              · skip
                refine lv_iload_n hx hb d_M_related_103 rfl (lv_at hl 1 rfl) ?_
                refine lv_bipush (v := 8) hx hb d_M_related_104 (by decide) ?_
                refine lv_icmp_ne (tgt := 114) hx hb d_M_related_106 (by decide) (fun c_10 => ?_) (fun c_10 => ?_)
                · skip
                  refine lv_iload_n hx hb d_M_related_114 rfl (lv_at hl 1 rfl) ?_
                  refine lv_bipush (v := 80) hx hb d_M_related_115 (by decide) ?_
                  refine lv_icmp_ge (tgt := 127) hx hb d_M_related_117 (by decide) (fun c_11 => ?_) (fun c_11 => ?_)
                  · skip
                    refine lv_bipush (v := (-3)) hx hb d_M_related_127 (by decide) ?_
                    exact pm_ret hx hb hr hlk (nar_i _) (by rw [f_M_related, if_neg c_2, if_neg c_4, if_neg c_5, if_neg c_6, if_neg c_7, if_neg c_8, if_neg c_9, if_neg c_10, if_pos c_11]) d_M_related_129
                  · skip
                    refine lv_iload_n hx hb d_M_related_120 rfl (lv_at hl 1 rfl) ?_
                    refine lv_bipush (v := 40) hx hb d_M_related_121 (by decide) ?_
                    refine lv_iadd hx hb d_M_related_123 ?_
                    refine lv_goto (tgt := 129) hx hb d_M_related_124 (by decide) ?_
                    exact pm_ret hx hb hr hlk (nar_i _) (by rw [f_M_related, if_neg c_2, if_neg c_4, if_neg c_5, if_neg c_6, if_neg c_7, if_neg c_8, if_neg c_9, if_neg c_10, if_neg c_11]) d_M_related_129
                · skip
                  refine lv_bipush (v := (-2)) hx hb d_M_related_109 (by decide) ?_
                  refine lv_goto (tgt := 129) hx hb d_M_related_111 (by decide) ?_
                  exact pm_ret hx hb hr hlk (nar_i _) (by rw [f_M_related, if_neg c_2, if_neg c_4, if_neg c_5, if_neg c_6, if_neg c_7, if_neg c_8, if_neg c_9, if_pos c_10]) d_M_related_129
              · skip
                refine lv_iload_n hx hb d_M_related_85 rfl (lv_at hl 1 rfl) ?_
                refine lv_bipush (v := 11) hx hb d_M_related_86 (by decide) ?_
                refine lv_bipush (v := 24) hx hb d_M_related_88 (by decide) ?_
                refine pm_callE hF hN (c_M_in l t 11 24) k_M_in j_M_26 ⟨Nat.le_of_ble_eq_true rfl, Nat.le_of_ble_eq_true rfl⟩ rfl hl.1 (Nat.le_of_ble_eq_true rfl) d_M_related_90 ⟨Nat.le_refl _, Nat.le_refl _⟩ ?_
                refine lv_if_eq (tgt := 101) hx hb d_M_related_93 (by decide) (fun c_13 => ?_) (fun c_13 => ?_)
                · skip
                  refine lv_iload_n hx hb d_M_related_101 rfl (lv_at hl 1 rfl) ?_
                  exact pm_ret hx hb hr hlk (nar_i _) (by rw [f_M_related, if_neg c_2, if_neg c_4, if_neg c_5, if_neg c_6, if_neg c_7, if_neg c_8, if_pos c_9, if_pos c_13]) d_M_related_102
                · skip
                  refine lv_bipush (v := 11) hx hb d_M_related_96 (by decide) ?_
                  refine lv_goto (tgt := 102) hx hb d_M_related_98 (by decide) ?_
                  exact pm_ret hx hb hr hlk (nar_i _) (by rw [f_M_related, if_neg c_2, if_neg c_4, if_neg c_5, if_neg c_6, if_neg c_7, if_neg c_8, if_pos c_9, if_neg c_13]) d_M_related_102
            · skip
              refine lv_iload_n hx hb d_M_related_63 rfl (lv_at hl 1 rfl) ?_
              refine pm_callE hF hN (c_M_member l t) k_M_member j_M_174 ⟨Nat.le_of_ble_eq_true rfl, Nat.le_of_ble_eq_true rfl⟩ rfl hl.1 (Nat.le_of_ble_eq_true rfl) d_M_related_64 ⟨Nat.le_refl _, Nat.le_refl _⟩ ?_
              refine lv_if_eq (tgt := 77) hx hb d_M_related_67 (by decide) (fun c_15 => ?_) (fun c_15 => ?_)
              · skip
                refine lv_bipush (v := (-2)) hx hb d_M_related_77 (by decide) ?_
                exact pm_ret hx hb hr hlk (nar_i _) (by rw [f_M_related, if_neg c_2, if_neg c_4, if_neg c_5, if_neg c_6, if_neg c_7, if_pos c_8, if_pos c_15]) d_M_related_79
              · skip
                refine lv_iload_n hx hb d_M_related_70 rfl (lv_at hl 1 rfl) ?_
                refine pm_callE hF hN (c_M_standsIn l t) k_M_standsIn j_M_183 ⟨Nat.le_of_ble_eq_true rfl, Nat.le_of_ble_eq_true rfl⟩ rfl hl.1 (Nat.le_of_ble_eq_true rfl) d_M_related_71 ⟨Nat.le_refl _, Nat.le_refl _⟩ ?_
                refine lv_goto (tgt := 79) hx hb d_M_related_74 (by decide) ?_
                exact pm_ret hx hb hr hlk (nar_i _) (by rw [f_M_related, if_neg c_2, if_neg c_4, if_neg c_5, if_neg c_6, if_neg c_7, if_pos c_8, if_neg c_15]) d_M_related_79
          · skip
            refine lv_iload_n hx hb d_M_related_53 rfl (lv_at hl 1 rfl) ?_
            refine pm_callE hF hN (c_M_standsIn l t) k_M_standsIn j_M_183 ⟨Nat.le_of_ble_eq_true rfl, Nat.le_of_ble_eq_true rfl⟩ rfl hl.1 (Nat.le_of_ble_eq_true rfl) d_M_related_54 ⟨Nat.le_refl _, Nat.le_refl _⟩ ?_
            exact pm_ret hx hb hr hlk (nar_i _) (by rw [f_M_related, if_neg c_2, if_neg c_4, if_neg c_5, if_neg c_6, if_pos c_7]) d_M_related_57
        · skip
          refine lv_iload_n hx hb d_M_related_32 rfl (lv_at hl 1 rfl) ?_
          refine lv_bipush (v := 40) hx hb d_M_related_33 (by decide) ?_
          refine lv_icmp_lt (tgt := 45) hx hb d_M_related_35 (by decide) (fun c_18 => ?_) (fun c_18 => ?_)
          · skip
            refine lv_bipush (v := (-2)) hx hb d_M_related_45 (by decide) ?_
            exact pm_ret hx hb hr hlk (nar_i _) (by rw [f_M_related, if_neg c_2, if_neg c_4, if_neg c_5, if_pos c_6, if_pos c_18]) d_M_related_47
          · skip
            refine lv_iload_n hx hb d_M_related_38 rfl (lv_at hl 1 rfl) ?_
            refine lv_bipush (v := 40) hx hb d_M_related_39 (by decide) ?_
            refine lv_isub hx hb d_M_related_41 ?_
            refine lv_goto (tgt := 47) hx hb d_M_related_42 (by decide) ?_
            exact pm_ret hx hb hr hlk (nar_i _) (by rw [f_M_related, if_neg c_2, if_neg c_4, if_neg c_5, if_pos c_6, if_neg c_18]) d_M_related_47
      · skip
        refine lv_iload_n hx hb d_M_related_22 rfl (lv_at hl 1 rfl) ?_
        refine pm_callE hF hN (c_M_up l t) k_M_up j_M_180 ⟨Nat.le_of_ble_eq_true rfl, Nat.le_of_ble_eq_true rfl⟩ rfl hl.1 (Nat.le_of_ble_eq_true rfl) d_M_related_23 ⟨Nat.le_refl _, Nat.le_refl _⟩ ?_
        exact pm_ret hx hb hr hlk (nar_i _) (by rw [f_M_related, if_neg c_2, if_neg c_4, if_pos c_5]) d_M_related_26
    · skip
      refine lv_iconst (v := (-1)) hx hb d_M_related_16 (by decide) ?_
      exact pm_ret hx hb hr hlk (nar_i _) (by rw [f_M_related, if_neg c_2, if_pos c_4]) d_M_related_17
def f_M_interfaceOf (t : Int32) (k : Int32) : Int32 := (if (f_M_isType t) = 0 then (-1) else (if t < 40 then (if t = 15 then (if k = 1 then 12 else (if k = 0 then (if t = 14 then 13 else 13) else (-2))) else (if k = 0 then (if t = 14 then 13 else (if t = 20 then (-3) else (if t = 21 then (-3) else (if t = 23 then 12 else (if t = 24 then 10 else (-2)))))) else (-2))) else (if (f_M_in k 0 1) = 0 then (-2) else (-3))))
set_option maxRecDepth 100000 in
theorem k_M_interfaceOf : ck y_M_interfaceOf b_M_interfaceOf 3 (some .int) 2 (.instanceMethod y_M_interfaceOf) := ⟨tk_of (List.mem_of_getElem? (i := 836) rfl) rfl, tk_of (List.mem_of_getElem? (i := 834) (by decide +kernel)) rfl, tk_of (List.mem_of_getElem? (i := 43) (by decide +kernel)) rfl, by decide +kernel⟩
set_option maxHeartbeats 4000000 in
set_option maxRecDepth 100000 in
theorem c_M_interfaceOf (l : Launch) (h0 : Nat) (t : Int32) (k : Int32) : pmI l y_M_interfaceOf b_M_interfaceOf 3 .int 2 42 [.ref h0, .int t, .int k] (fun r => r = f_M_interfaceOf t k) := by
  refine pm_of (by decide) (Nat.le_of_ble_eq_true rfl) ?_
  intro p e s m below meth c ls hx hb hF hr hlk hN hl
  have hl : lv_has ls 3 [(0, .ref h0), (1, .int t), (2, .int k)] := hl
  refine lv_iload_n hx hb d_M_interfaceOf_0 rfl (lv_at hl 1 rfl) ?_
  refine pm_callE hF hN (c_M_isType l t) k_M_isType j_M_167 ⟨Nat.le_of_ble_eq_true rfl, Nat.le_of_ble_eq_true rfl⟩ rfl hl.1 (Nat.le_of_ble_eq_true rfl) d_M_interfaceOf_1 ⟨Nat.le_refl _, Nat.le_refl _⟩ ?_
  refine lv_if_ne (tgt := 9) hx hb d_M_interfaceOf_4 (by decide) (fun c_2 => ?_) (fun c_2 => ?_)
  · skip
    refine lv_iload_n hx hb d_M_interfaceOf_9 rfl (lv_at hl 1 rfl) ?_
    refine lv_bipush (v := 40) hx hb d_M_interfaceOf_10 (by decide) ?_
    refine lv_icmp_lt (tgt := 32) hx hb d_M_interfaceOf_12 (by decide) (fun c_3 => ?_) (fun c_3 => ?_)
    · skip
      refine lv_iload_n hx hb d_M_interfaceOf_32 rfl (lv_at hl 1 rfl) ?_
      refine lv_bipush (v := 15) hx hb d_M_interfaceOf_33 (by decide) ?_
      refine lv_icmp_ne (tgt := 46) hx hb d_M_interfaceOf_35 (by decide) (fun c_4 => ?_) (fun c_4 => ?_)
      · skip
        refine lv_iload_n hx hb d_M_interfaceOf_46 rfl (lv_at hl 2 rfl) ?_
        refine lv_if_eq (tgt := 53) hx hb d_M_interfaceOf_47 (by decide) (fun c_5 => ?_) (fun c_5 => ?_)
        · skip
          refine lv_iload_n hx hb d_M_interfaceOf_53 rfl (lv_at hl 1 rfl) ?_
          refine lv_bipush (v := 14) hx hb d_M_interfaceOf_54 (by decide) ?_
          refine lv_icmp_eq (tgt := 65) hx hb d_M_interfaceOf_56 (by decide) (fun c_6 => ?_) (fun c_6 => ?_)
          · skip
            refine lv_bipush (v := 13) hx hb d_M_interfaceOf_65 (by decide) ?_
            exact pm_ret hx hb hr hlk (nar_i _) (by rw [f_M_interfaceOf, if_neg c_2, if_pos c_3, if_neg c_4, if_pos c_5, if_pos c_6]) d_M_interfaceOf_67
          · skip
            refine lv_iload_n hx hb d_M_interfaceOf_59 rfl (lv_at hl 1 rfl) ?_
            refine lv_bipush (v := 15) hx hb d_M_interfaceOf_60 (by decide) ?_
            refine lv_icmp_ne (tgt := 68) hx hb d_M_interfaceOf_62 (by decide) (fun c_7 => ?_) (fun c_7 => ?_)
            · skip
              refine lv_iload_n hx hb d_M_interfaceOf_68 rfl (lv_at hl 1 rfl) ?_
              refine lv_bipush (v := 20) hx hb d_M_interfaceOf_69 (by decide) ?_
              refine lv_icmp_eq (tgt := 80) hx hb d_M_interfaceOf_71 (by decide) (fun c_8 => ?_) (fun c_8 => ?_)
              · skip
                refine lv_bipush (v := (-3)) hx hb d_M_interfaceOf_80 (by decide) ?_
                exact pm_ret hx hb hr hlk (nar_i _) (by rw [f_M_interfaceOf, if_neg c_2, if_pos c_3, if_neg c_4, if_pos c_5, if_neg c_6, if_pos c_8]) d_M_interfaceOf_82
              · skip
                refine lv_iload_n hx hb d_M_interfaceOf_74 rfl (lv_at hl 1 rfl) ?_
                refine lv_bipush (v := 21) hx hb d_M_interfaceOf_75 (by decide) ?_
                refine lv_icmp_ne (tgt := 83) hx hb d_M_interfaceOf_77 (by decide) (fun c_9 => ?_) (fun c_9 => ?_)
                · skip
                  refine lv_iload_n hx hb d_M_interfaceOf_83 rfl (lv_at hl 1 rfl) ?_
                  refine lv_bipush (v := 23) hx hb d_M_interfaceOf_84 (by decide) ?_
                  refine lv_icmp_ne (tgt := 94) hx hb d_M_interfaceOf_86 (by decide) (fun c_10 => ?_) (fun c_10 => ?_)
                  · skip
                    refine lv_iload_n hx hb d_M_interfaceOf_94 rfl (lv_at hl 1 rfl) ?_
                    refine lv_bipush (v := 24) hx hb d_M_interfaceOf_95 (by decide) ?_
                    refine lv_icmp_ne (tgt := 105) hx hb d_M_interfaceOf_97 (by decide) (fun c_11 => ?_) (fun c_11 => ?_)
                    · skip
                      refine lv_bipush (v := (-2)) hx hb d_M_interfaceOf_105 (by decide) ?_
                      exact pm_ret hx hb hr hlk (nar_i _) (by rw [f_M_interfaceOf, if_neg c_2, if_pos c_3, if_neg c_4, if_pos c_5, if_neg c_6, if_neg c_8, if_neg c_9, if_neg c_10, if_neg c_11]) d_M_interfaceOf_107
                    · skip
                      refine lv_bipush (v := 10) hx hb d_M_interfaceOf_100 (by decide) ?_
                      refine lv_goto (tgt := 107) hx hb d_M_interfaceOf_102 (by decide) ?_
                      exact pm_ret hx hb hr hlk (nar_i _) (by rw [f_M_interfaceOf, if_neg c_2, if_pos c_3, if_neg c_4, if_pos c_5, if_neg c_6, if_neg c_8, if_neg c_9, if_neg c_10, if_pos c_11]) d_M_interfaceOf_107
                  · skip
                    refine lv_bipush (v := 12) hx hb d_M_interfaceOf_89 (by decide) ?_
                    refine lv_goto (tgt := 107) hx hb d_M_interfaceOf_91 (by decide) ?_
                    exact pm_ret hx hb hr hlk (nar_i _) (by rw [f_M_interfaceOf, if_neg c_2, if_pos c_3, if_neg c_4, if_pos c_5, if_neg c_6, if_neg c_8, if_neg c_9, if_pos c_10]) d_M_interfaceOf_107
                · skip
                  refine lv_bipush (v := (-3)) hx hb d_M_interfaceOf_80 (by decide) ?_
                  exact pm_ret hx hb hr hlk (nar_i _) (by rw [f_M_interfaceOf, if_neg c_2, if_pos c_3, if_neg c_4, if_pos c_5, if_neg c_6, if_neg c_8, if_pos c_9]) d_M_interfaceOf_82
            · exact absurd c_7 c_4
        · skip
          refine lv_bipush (v := (-2)) hx hb d_M_interfaceOf_50 (by decide) ?_
          exact pm_ret hx hb hr hlk (nar_i _) (by rw [f_M_interfaceOf, if_neg c_2, if_pos c_3, if_neg c_4, if_neg c_5]) d_M_interfaceOf_52
      · skip
        refine lv_iload_n hx hb d_M_interfaceOf_38 rfl (lv_at hl 2 rfl) ?_
        refine lv_iconst (v := 1) hx hb d_M_interfaceOf_39 (by decide) ?_
        refine lv_icmp_ne (tgt := 46) hx hb d_M_interfaceOf_40 (by decide) (fun c_12 => ?_) (fun c_12 => ?_)
        · skip
          refine lv_iload_n hx hb d_M_interfaceOf_46 rfl (lv_at hl 2 rfl) ?_
          refine lv_if_eq (tgt := 53) hx hb d_M_interfaceOf_47 (by decide) (fun c_13 => ?_) (fun c_13 => ?_)
          · skip
            refine lv_iload_n hx hb d_M_interfaceOf_53 rfl (lv_at hl 1 rfl) ?_
            refine lv_bipush (v := 14) hx hb d_M_interfaceOf_54 (by decide) ?_
            refine lv_icmp_eq (tgt := 65) hx hb d_M_interfaceOf_56 (by decide) (fun c_14 => ?_) (fun c_14 => ?_)
            · skip
              refine lv_bipush (v := 13) hx hb d_M_interfaceOf_65 (by decide) ?_
              exact pm_ret hx hb hr hlk (nar_i _) (by rw [f_M_interfaceOf, if_neg c_2, if_pos c_3, if_pos c_4, if_neg c_12, if_pos c_13, if_pos c_14]) d_M_interfaceOf_67
            · skip
              refine lv_iload_n hx hb d_M_interfaceOf_59 rfl (lv_at hl 1 rfl) ?_
              refine lv_bipush (v := 15) hx hb d_M_interfaceOf_60 (by decide) ?_
              refine lv_icmp_ne (tgt := 68) hx hb d_M_interfaceOf_62 (by decide) (fun c_15 => ?_) (fun c_15 => ?_)
              · exact absurd c_4 c_15
              · skip
                refine lv_bipush (v := 13) hx hb d_M_interfaceOf_65 (by decide) ?_
                exact pm_ret hx hb hr hlk (nar_i _) (by rw [f_M_interfaceOf, if_neg c_2, if_pos c_3, if_pos c_4, if_neg c_12, if_pos c_13, if_neg c_14]) d_M_interfaceOf_67
          · skip
            refine lv_bipush (v := (-2)) hx hb d_M_interfaceOf_50 (by decide) ?_
            exact pm_ret hx hb hr hlk (nar_i _) (by rw [f_M_interfaceOf, if_neg c_2, if_pos c_3, if_pos c_4, if_neg c_12, if_neg c_13]) d_M_interfaceOf_52
        · skip
          refine lv_bipush (v := 12) hx hb d_M_interfaceOf_43 (by decide) ?_
          exact pm_ret hx hb hr hlk (nar_i _) (by rw [f_M_interfaceOf, if_neg c_2, if_pos c_3, if_pos c_4, if_pos c_12]) d_M_interfaceOf_45
    · skip
      refine lv_iload_n hx hb d_M_interfaceOf_15 rfl (lv_at hl 2 rfl) ?_
      refine lv_iconst (v := 0) hx hb d_M_interfaceOf_16 (by decide) ?_
      refine lv_iconst (v := 1) hx hb d_M_interfaceOf_17 (by decide) ?_
      refine pm_callE hF hN (c_M_in l k 0 1) k_M_in j_M_26 ⟨Nat.le_of_ble_eq_true rfl, Nat.le_of_ble_eq_true rfl⟩ rfl hl.1 (Nat.le_of_ble_eq_true rfl) d_M_interfaceOf_18 ⟨Nat.le_refl _, Nat.le_refl _⟩ ?_
      refine lv_if_eq (tgt := 29) hx hb d_M_interfaceOf_21 (by decide) (fun c_17 => ?_) (fun c_17 => ?_)
      · skip
        refine lv_bipush (v := (-2)) hx hb d_M_interfaceOf_29 (by decide) ?_
        exact pm_ret hx hb hr hlk (nar_i _) (by rw [f_M_interfaceOf, if_neg c_2, if_neg c_3, if_pos c_17]) d_M_interfaceOf_31
      · skip
        refine lv_bipush (v := (-3)) hx hb d_M_interfaceOf_24 (by decide) ?_
        refine lv_goto (tgt := 31) hx hb d_M_interfaceOf_26 (by decide) ?_
        exact pm_ret hx hb hr hlk (nar_i _) (by rw [f_M_interfaceOf, if_neg c_2, if_neg c_3, if_neg c_17]) d_M_interfaceOf_31
  · skip
    refine lv_iconst (v := (-1)) hx hb d_M_interfaceOf_7 (by decide) ?_
    exact pm_ret hx hb hr hlk (nar_i _) (by rw [f_M_interfaceOf, if_pos c_2]) d_M_interfaceOf_8
def f_M_nestmates (u : Int32) (t : Int32) : Int32 := (if (f_M_isType u) = 0 then 0 else (if (f_M_isType t) = 0 then 0 else (if u = t then 1 else (if (f_M_in u 11 24) = 0 then 0 else (if (f_M_in t 11 24) = 0 then 0 else 1)))))
set_option maxRecDepth 100000 in
theorem z_M_nestmates (u : Int32) (t : Int32) : f_M_nestmates u t = 0 ∨ f_M_nestmates u t = 1 := by
  unfold f_M_nestmates
  repeat' first | with_reducible refine z_ite ?_ ?_ | with_reducible exact z_M_in _ _ _ | with_reducible exact z_M_isType _ | with_reducible exact Or.inl rfl | with_reducible exact Or.inr rfl
set_option maxRecDepth 100000 in
theorem k_M_nestmates : ck y_M_nestmates b_M_nestmates 3 (some .boolean) 2 (.instanceMethod y_M_nestmates) := ⟨tk_of (List.mem_of_getElem? (i := 851) rfl) rfl, tk_of (List.mem_of_getElem? (i := 849) (by decide +kernel)) rfl, tk_of (List.mem_of_getElem? (i := 43) (by decide +kernel)) rfl, by decide +kernel⟩
set_option maxHeartbeats 4000000 in
set_option maxRecDepth 100000 in
theorem c_M_nestmates (l : Launch) (h0 : Nat) (u : Int32) (t : Int32) : pmI l y_M_nestmates b_M_nestmates 3 .boolean 2 42 [.ref h0, .int u, .int t] (fun r => r = f_M_nestmates u t) := by
  refine pm_of (by decide) (Nat.le_of_ble_eq_true rfl) ?_
  intro p e s m below meth c ls hx hb hF hr hlk hN hl
  have hl : lv_has ls 3 [(0, .ref h0), (1, .int u), (2, .int t)] := hl
  refine lv_iload_n hx hb d_M_nestmates_0 rfl (lv_at hl 1 rfl) ?_
  refine pm_callE hF hN (c_M_isType l u) k_M_isType j_M_167 ⟨Nat.le_of_ble_eq_true rfl, Nat.le_of_ble_eq_true rfl⟩ rfl hl.1 (Nat.le_of_ble_eq_true rfl) d_M_nestmates_1 ⟨Nat.le_refl _, Nat.le_refl _⟩ ?_
  refine lv_if_eq (tgt := 45) hx hb d_M_nestmates_4 (by decide) (fun c_2 => ?_) (fun c_2 => ?_)
  · skip
    refine lv_iconst (v := 0) hx hb d_M_nestmates_45 (by decide) ?_
    exact pm_ret hx hb hr hlk (by decide) (by rw [f_M_nestmates, if_pos c_2]) d_M_nestmates_46
  · skip
    refine lv_iload_n hx hb d_M_nestmates_7 rfl (lv_at hl 2 rfl) ?_
    refine pm_callE hF hN (c_M_isType l t) k_M_isType j_M_167 ⟨Nat.le_of_ble_eq_true rfl, Nat.le_of_ble_eq_true rfl⟩ rfl hl.1 (Nat.le_of_ble_eq_true rfl) d_M_nestmates_8 ⟨Nat.le_refl _, Nat.le_refl _⟩ ?_
    refine lv_if_eq (tgt := 45) hx hb d_M_nestmates_11 (by decide) (fun c_4 => ?_) (fun c_4 => ?_)
    · skip
      refine lv_iconst (v := 0) hx hb d_M_nestmates_45 (by decide) ?_
      exact pm_ret hx hb hr hlk (by decide) (by rw [f_M_nestmates, if_neg c_2, if_pos c_4]) d_M_nestmates_46
    · skip
      refine lv_iload_n hx hb d_M_nestmates_14 rfl (lv_at hl 1 rfl) ?_
      refine lv_iload_n hx hb d_M_nestmates_15 rfl (lv_at hl 2 rfl) ?_
      refine lv_icmp_eq (tgt := 41) hx hb d_M_nestmates_16 (by decide) (fun c_5 => ?_) (fun c_5 => ?_)
      · skip
        refine lv_iconst (v := 1) hx hb d_M_nestmates_41 (by decide) ?_
        refine lv_goto (tgt := 46) hx hb d_M_nestmates_42 (by decide) ?_
        exact pm_ret hx hb hr hlk (by decide) (by rw [f_M_nestmates, if_neg c_2, if_neg c_4, if_pos c_5]) d_M_nestmates_46
      · skip
        refine lv_iload_n hx hb d_M_nestmates_19 rfl (lv_at hl 1 rfl) ?_
        refine lv_bipush (v := 11) hx hb d_M_nestmates_20 (by decide) ?_
        refine lv_bipush (v := 24) hx hb d_M_nestmates_22 (by decide) ?_
        refine pm_callE hF hN (c_M_in l u 11 24) k_M_in j_M_26 ⟨Nat.le_of_ble_eq_true rfl, Nat.le_of_ble_eq_true rfl⟩ rfl hl.1 (Nat.le_of_ble_eq_true rfl) d_M_nestmates_24 ⟨Nat.le_refl _, Nat.le_refl _⟩ ?_
        refine lv_if_eq (tgt := 45) hx hb d_M_nestmates_27 (by decide) (fun c_7 => ?_) (fun c_7 => ?_)
        · skip
          refine lv_iconst (v := 0) hx hb d_M_nestmates_45 (by decide) ?_
          exact pm_ret hx hb hr hlk (by decide) (by rw [f_M_nestmates, if_neg c_2, if_neg c_4, if_neg c_5, if_pos c_7]) d_M_nestmates_46
        · skip
          refine lv_iload_n hx hb d_M_nestmates_30 rfl (lv_at hl 2 rfl) ?_
          refine lv_bipush (v := 11) hx hb d_M_nestmates_31 (by decide) ?_
          refine lv_bipush (v := 24) hx hb d_M_nestmates_33 (by decide) ?_
          refine pm_callE hF hN (c_M_in l t 11 24) k_M_in j_M_26 ⟨Nat.le_of_ble_eq_true rfl, Nat.le_of_ble_eq_true rfl⟩ rfl hl.1 (Nat.le_of_ble_eq_true rfl) d_M_nestmates_35 ⟨Nat.le_refl _, Nat.le_refl _⟩ ?_
          refine lv_if_eq (tgt := 45) hx hb d_M_nestmates_38 (by decide) (fun c_9 => ?_) (fun c_9 => ?_)
          · skip
            refine lv_iconst (v := 0) hx hb d_M_nestmates_45 (by decide) ?_
            exact pm_ret hx hb hr hlk (by decide) (by rw [f_M_nestmates, if_neg c_2, if_neg c_4, if_neg c_5, if_neg c_7, if_pos c_9]) d_M_nestmates_46
          · skip
            refine lv_iconst (v := 1) hx hb d_M_nestmates_41 (by decide) ?_
            refine lv_goto (tgt := 46) hx hb d_M_nestmates_42 (by decide) ?_
            exact pm_ret hx hb hr hlk (by decide) (by rw [f_M_nestmates, if_neg c_2, if_neg c_4, if_neg c_5, if_neg c_7, if_neg c_9]) d_M_nestmates_46
end
section
theorem m_l3 : ∀ j : Nat, j < 120 → (nI j + (-40)) + (-40) < 40 := by decide +kernel
theorem m_lt3 {u : Int32} (h : u < 120) (h1 : ¬ u < 40) (_ : ¬ (u + (-40)) < 40) : (u + (-40)) + (-40) < 40 := by
  obtain ⟨j, hj, rfl⟩ := nI_of (x := u) (fun q => h1 (Int32.lt_trans q (by decide)))
  exact m_l3 j ((nI_ltI hj (b := 120) (by decide)).mp h)
theorem m_isT {u : Int32} (h : ¬ f_M_isType u = 0) : u < 120 := by
  apply Classical.byContradiction
  intro hn
  apply h
  have a1 : ∀ a b : Int32, b < 120 → f_M_in u a b = 0 := by
    intro a b hb
    rw [f_M_in]
    by_cases c1 : u < a
    · rw [if_pos c1]
    · rw [if_neg c1, if_pos (Int32.lt_of_lt_of_le hb (Int32.not_lt.mp hn))]
  rw [f_M_isType, if_pos (a1 0 24 (by decide)), if_pos (a1 40 64 (by decide)), if_pos (a1 80 104 (by decide))]
end
section
def f_M_into (u : Int32) (t : Int32) : Int32 := (if u < 40 then (if u = t then 1 else (if t = 9 then (if (f_M_primitive u) = 0 then 1 else 0) else (if t = 10 then (if u = 24 then 1 else 0) else (if t = 12 then (if u = 15 then 1 else (if u = 23 then 1 else 0)) else (if t = 13 then (if u = 14 then 1 else (if u = 15 then 1 else 0)) else (if t = 16 then (if u = 17 then 1 else 0) else (if t = 21 then (if u = 22 then 1 else (if u = 23 then 1 else (if t = 22 then 0 else 0))) else (if t = 22 then (if u = 23 then 1 else 0) else 0)))))))) else (if t < 40 then (if u = t then 1 else (if t = 9 then (if (f_M_primitive u) = 0 then 1 else 0) else (if t = 10 then (if u = 24 then 1 else 0) else (if t = 12 then (if u = 15 then 1 else (if u = 23 then 1 else 0)) else (if t = 13 then (if u = 14 then 1 else (if u = 15 then 1 else 0)) else (if t = 16 then (if u = 17 then 1 else 0) else (if t = 21 then (if u = 22 then 1 else (if u = 23 then 1 else (if t = 22 then 0 else 0))) else (if t = 22 then (if u = 23 then 1 else 0) else 0)))))))) else (if u = t then 1 else (if (f_M_primitive (u + (-40))) = 0 then (if (u + (-40)) < 40 then (if (u + (-40)) = (t + (-40)) then 1 else (if (t + (-40)) = 9 then 1 else (if (t + (-40)) = 10 then (if (u + (-40)) = 24 then 1 else 0) else (if (t + (-40)) = 12 then (if (u + (-40)) = 15 then 1 else (if (u + (-40)) = 23 then 1 else 0)) else (if (t + (-40)) = 13 then (if (u + (-40)) = 14 then 1 else (if (u + (-40)) = 15 then 1 else 0)) else (if (t + (-40)) = 16 then (if (u + (-40)) = 17 then 1 else 0) else (if (t + (-40)) = 21 then (if (u + (-40)) = 22 then 1 else (if (u + (-40)) = 23 then 1 else (if (t + (-40)) = 22 then 0 else 0))) else (if (t + (-40)) = 22 then (if (u + (-40)) = 23 then 1 else 0) else 0)))))))) else (if (t + (-40)) < 40 then (if (u + (-40)) = (t + (-40)) then 1 else (if (t + (-40)) = 9 then 1 else (if (t + (-40)) = 10 then (if (u + (-40)) = 24 then 1 else 0) else (if (t + (-40)) = 12 then (if (u + (-40)) = 15 then 1 else (if (u + (-40)) = 23 then 1 else 0)) else (if (t + (-40)) = 13 then (if (u + (-40)) = 14 then 1 else (if (u + (-40)) = 15 then 1 else 0)) else (if (t + (-40)) = 16 then (if (u + (-40)) = 17 then 1 else 0) else (if (t + (-40)) = 21 then (if (u + (-40)) = 22 then 1 else (if (u + (-40)) = 23 then 1 else (if (t + (-40)) = 22 then 0 else 0))) else (if (t + (-40)) = 22 then (if (u + (-40)) = 23 then 1 else 0) else 0)))))))) else (if (u + (-40)) = (t + (-40)) then 1 else (if (f_M_primitive ((u + (-40)) + (-40))) = 0 then (if ((u + (-40)) + (-40)) = ((t + (-40)) + (-40)) then 1 else (if ((t + (-40)) + (-40)) = 9 then 1 else (if ((t + (-40)) + (-40)) = 10 then (if ((u + (-40)) + (-40)) = 24 then 1 else 0) else (if ((t + (-40)) + (-40)) = 12 then (if ((u + (-40)) + (-40)) = 15 then 1 else (if ((u + (-40)) + (-40)) = 23 then 1 else 0)) else (if ((t + (-40)) + (-40)) = 13 then (if ((u + (-40)) + (-40)) = 14 then 1 else (if ((u + (-40)) + (-40)) = 15 then 1 else 0)) else (if ((t + (-40)) + (-40)) = 16 then (if ((u + (-40)) + (-40)) = 17 then 1 else 0) else (if ((t + (-40)) + (-40)) = 21 then (if ((u + (-40)) + (-40)) = 22 then 1 else (if ((u + (-40)) + (-40)) = 23 then 1 else (if ((t + (-40)) + (-40)) = 22 then 0 else 0))) else (if ((t + (-40)) + (-40)) = 22 then (if ((u + (-40)) + (-40)) = 23 then 1 else 0) else 0)))))))) else 0)))) else 0))))
set_option maxRecDepth 100000 in
theorem z_M_into (u : Int32) (t : Int32) : f_M_into u t = 0 ∨ f_M_into u t = 1 := by
  unfold f_M_into
  repeat' first | with_reducible refine z_ite ?_ ?_ | with_reducible exact z_M_primitive _ | with_reducible exact Or.inl rfl | with_reducible exact Or.inr rfl
set_option maxRecDepth 100000 in
theorem k_M_into : ck y_M_into b_M_into 4 (some .boolean) 2 (.static y_M_into) := ⟨tk_of (List.mem_of_getElem? (i := 843) rfl) rfl, tk_of (List.mem_of_getElem? (i := 842) (by decide +kernel)) rfl, tk_of (List.mem_of_getElem? (i := 43) (by decide +kernel)) rfl, by decide +kernel⟩
set_option maxHeartbeats 4000000 in
set_option maxRecDepth 100000 in
theorem c_M_into (l : Launch) (u : Int32) (t : Int32) (hu : u < 120) : pmI l y_M_into b_M_into 4 .boolean 2 42 [.int u, .int t] (fun r => r = f_M_into u t) := by
  refine pm_of (by decide) (Nat.le_of_ble_eq_true rfl) ?_
  intro p e s m below meth c ls hx hb hF hr hlk hN hl
  have hl : lv_has ls 4 [(0, .int u), (1, .int t)] := hl
  refine lv_iload_n hx hb d_M_into_0 rfl (lv_at hl 0 rfl) ?_
  refine lv_istore_n (lv' := [(2, .int u), (0, .int u), (1, .int t)]) hx hb d_M_into_1 rfl hl (by decide) rfl (fun ls hl => ?_)
  refine lv_iload_n hx hb d_M_into_2 rfl (lv_at hl 2 rfl) ?_
  refine lv_istore_n (lv' := [(3, .int t), (2, .int u), (0, .int u), (1, .int t)]) hx hb d_M_into_3 rfl hl (by decide) rfl (fun ls hl => ?_)
  refine lv_iload_n hx hb d_M_into_4 rfl (lv_at hl 1 rfl) ?_
  refine lv_bipush (v := 40) hx hb d_M_into_5 (by decide) ?_
  refine lv_icmp_lt (tgt := 36) hx hb d_M_into_7 (by decide) (fun c_1 => ?_) (fun c_1 => ?_)
  · skip
    refine lv_iload_n hx hb d_M_into_36 rfl (lv_at hl 1 rfl) ?_
    refine lv_iload_n hx hb d_M_into_37 rfl (lv_at hl 0 rfl) ?_
    refine lv_icmp_ne (tgt := 43) hx hb d_M_into_38 (by decide) (fun c_2 => ?_) (fun c_2 => ?_)
    · skip
      refine lv_iload_n hx hb d_M_into_43 rfl (lv_at hl 0 rfl) ?_
      refine lv_bipush (v := 9) hx hb d_M_into_44 (by decide) ?_
      refine lv_icmp_ne (tgt := 62) hx hb d_M_into_46 (by decide) (fun c_3 => ?_) (fun c_3 => ?_)
      · skip
        refine lv_iload_n hx hb d_M_into_62 rfl (lv_at hl 0 rfl) ?_
        refine lv_bipush (v := 10) hx hb d_M_into_63 (by decide) ?_
        refine lv_icmp_ne (tgt := 80) hx hb d_M_into_65 (by decide) (fun c_4 => ?_) (fun c_4 => ?_)
        · skip
          refine lv_iload_n hx hb d_M_into_80 rfl (lv_at hl 0 rfl) ?_
          refine lv_bipush (v := 12) hx hb d_M_into_81 (by decide) ?_
          refine lv_icmp_ne (tgt := 104) hx hb d_M_into_83 (by decide) (fun c_5 => ?_) (fun c_5 => ?_)
          · skip
            refine lv_iload_n hx hb d_M_into_104 rfl (lv_at hl 0 rfl) ?_
            refine lv_bipush (v := 13) hx hb d_M_into_105 (by decide) ?_
            refine lv_icmp_ne (tgt := 128) hx hb d_M_into_107 (by decide) (fun c_6 => ?_) (fun c_6 => ?_)
            · skip
              refine lv_iload_n hx hb d_M_into_128 rfl (lv_at hl 0 rfl) ?_
              refine lv_bipush (v := 16) hx hb d_M_into_129 (by decide) ?_
              refine lv_icmp_ne (tgt := 146) hx hb d_M_into_131 (by decide) (fun c_7 => ?_) (fun c_7 => ?_)
              · skip
                refine lv_iload_n hx hb d_M_into_146 rfl (lv_at hl 0 rfl) ?_
                refine lv_bipush (v := 21) hx hb d_M_into_147 (by decide) ?_
                refine lv_icmp_ne (tgt := 164) hx hb d_M_into_149 (by decide) (fun c_8 => ?_) (fun c_8 => ?_)
                · skip
                  refine lv_iload_n hx hb d_M_into_164 rfl (lv_at hl 0 rfl) ?_
                  refine lv_bipush (v := 22) hx hb d_M_into_165 (by decide) ?_
                  refine lv_icmp_ne (tgt := 180) hx hb d_M_into_167 (by decide) (fun c_9 => ?_) (fun c_9 => ?_)
                  · skip
                    refine lv_iconst (v := 0) hx hb d_M_into_180 (by decide) ?_
                    exact pm_ret hx hb hr hlk (by decide) (by rw [f_M_into, if_pos c_1, if_neg c_2, if_neg c_3, if_neg c_4, if_neg c_5, if_neg c_6, if_neg c_7, if_neg c_8, if_neg c_9]) d_M_into_181
                  · skip
                    refine lv_iload_n hx hb d_M_into_170 rfl (lv_at hl 1 rfl) ?_
                    refine lv_bipush (v := 23) hx hb d_M_into_171 (by decide) ?_
                    refine lv_icmp_ne (tgt := 180) hx hb d_M_into_173 (by decide) (fun c_10 => ?_) (fun c_10 => ?_)
                    · skip
                      refine lv_iconst (v := 0) hx hb d_M_into_180 (by decide) ?_
                      exact pm_ret hx hb hr hlk (by decide) (by rw [f_M_into, if_pos c_1, if_neg c_2, if_neg c_3, if_neg c_4, if_neg c_5, if_neg c_6, if_neg c_7, if_neg c_8, if_pos c_9, if_neg c_10]) d_M_into_181
                    · skip
                      refine lv_iconst (v := 1) hx hb d_M_into_176 (by decide) ?_
                      refine lv_goto (tgt := 181) hx hb d_M_into_177 (by decide) ?_
                      exact pm_ret hx hb hr hlk (by decide) (by rw [f_M_into, if_pos c_1, if_neg c_2, if_neg c_3, if_neg c_4, if_neg c_5, if_neg c_6, if_neg c_7, if_neg c_8, if_pos c_9, if_pos c_10]) d_M_into_181
                · skip
                  refine lv_iload_n hx hb d_M_into_152 rfl (lv_at hl 1 rfl) ?_
                  refine lv_bipush (v := 22) hx hb d_M_into_153 (by decide) ?_
                  refine lv_icmp_eq (tgt := 176) hx hb d_M_into_155 (by decide) (fun c_11 => ?_) (fun c_11 => ?_)
                  · skip
                    refine lv_iconst (v := 1) hx hb d_M_into_176 (by decide) ?_
                    refine lv_goto (tgt := 181) hx hb d_M_into_177 (by decide) ?_
                    exact pm_ret hx hb hr hlk (by decide) (by rw [f_M_into, if_pos c_1, if_neg c_2, if_neg c_3, if_neg c_4, if_neg c_5, if_neg c_6, if_neg c_7, if_pos c_8, if_pos c_11]) d_M_into_181
                  · skip
                    refine lv_iload_n hx hb d_M_into_158 rfl (lv_at hl 1 rfl) ?_
                    refine lv_bipush (v := 23) hx hb d_M_into_159 (by decide) ?_
                    refine lv_icmp_eq (tgt := 176) hx hb d_M_into_161 (by decide) (fun c_12 => ?_) (fun c_12 => ?_)
                    · skip
                      refine lv_iconst (v := 1) hx hb d_M_into_176 (by decide) ?_
                      refine lv_goto (tgt := 181) hx hb d_M_into_177 (by decide) ?_
                      exact pm_ret hx hb hr hlk (by decide) (by rw [f_M_into, if_pos c_1, if_neg c_2, if_neg c_3, if_neg c_4, if_neg c_5, if_neg c_6, if_neg c_7, if_pos c_8, if_neg c_11, if_pos c_12]) d_M_into_181
                    · skip
                      refine lv_iload_n hx hb d_M_into_164 rfl (lv_at hl 0 rfl) ?_
                      refine lv_bipush (v := 22) hx hb d_M_into_165 (by decide) ?_
                      refine lv_icmp_ne (tgt := 180) hx hb d_M_into_167 (by decide) (fun c_13 => ?_) (fun c_13 => ?_)
                      · skip
                        refine lv_iconst (v := 0) hx hb d_M_into_180 (by decide) ?_
                        exact pm_ret hx hb hr hlk (by decide) (by rw [f_M_into, if_pos c_1, if_neg c_2, if_neg c_3, if_neg c_4, if_neg c_5, if_neg c_6, if_neg c_7, if_pos c_8, if_neg c_11, if_neg c_12, if_neg c_13]) d_M_into_181
                      · skip
                        refine lv_iload_n hx hb d_M_into_170 rfl (lv_at hl 1 rfl) ?_
                        refine lv_bipush (v := 23) hx hb d_M_into_171 (by decide) ?_
                        refine lv_icmp_ne (tgt := 180) hx hb d_M_into_173 (by decide) (fun c_14 => ?_) (fun c_14 => ?_)
                        · skip
                          refine lv_iconst (v := 0) hx hb d_M_into_180 (by decide) ?_
                          exact pm_ret hx hb hr hlk (by decide) (by rw [f_M_into, if_pos c_1, if_neg c_2, if_neg c_3, if_neg c_4, if_neg c_5, if_neg c_6, if_neg c_7, if_pos c_8, if_neg c_11, if_neg c_12, if_pos c_13]) d_M_into_181
                        · exact absurd c_14 c_12
              · skip
                refine lv_iload_n hx hb d_M_into_134 rfl (lv_at hl 1 rfl) ?_
                refine lv_bipush (v := 17) hx hb d_M_into_135 (by decide) ?_
                refine lv_icmp_ne (tgt := 144) hx hb d_M_into_137 (by decide) (fun c_15 => ?_) (fun c_15 => ?_)
                · skip
                  refine lv_iconst (v := 0) hx hb d_M_into_144 (by decide) ?_
                  exact pm_ret hx hb hr hlk (by decide) (by rw [f_M_into, if_pos c_1, if_neg c_2, if_neg c_3, if_neg c_4, if_neg c_5, if_neg c_6, if_pos c_7, if_neg c_15]) d_M_into_145
                · skip
                  refine lv_iconst (v := 1) hx hb d_M_into_140 (by decide) ?_
                  refine lv_goto (tgt := 145) hx hb d_M_into_141 (by decide) ?_
                  exact pm_ret hx hb hr hlk (by decide) (by rw [f_M_into, if_pos c_1, if_neg c_2, if_neg c_3, if_neg c_4, if_neg c_5, if_neg c_6, if_pos c_7, if_pos c_15]) d_M_into_145
            · skip
              refine lv_iload_n hx hb d_M_into_110 rfl (lv_at hl 1 rfl) ?_
              refine lv_bipush (v := 14) hx hb d_M_into_111 (by decide) ?_
              refine lv_icmp_eq (tgt := 122) hx hb d_M_into_113 (by decide) (fun c_16 => ?_) (fun c_16 => ?_)
              · skip
                refine lv_iconst (v := 1) hx hb d_M_into_122 (by decide) ?_
                refine lv_goto (tgt := 127) hx hb d_M_into_123 (by decide) ?_
                exact pm_ret hx hb hr hlk (by decide) (by rw [f_M_into, if_pos c_1, if_neg c_2, if_neg c_3, if_neg c_4, if_neg c_5, if_pos c_6, if_pos c_16]) d_M_into_127
              · skip
                refine lv_iload_n hx hb d_M_into_116 rfl (lv_at hl 1 rfl) ?_
                refine lv_bipush (v := 15) hx hb d_M_into_117 (by decide) ?_
                refine lv_icmp_ne (tgt := 126) hx hb d_M_into_119 (by decide) (fun c_17 => ?_) (fun c_17 => ?_)
                · skip
                  refine lv_iconst (v := 0) hx hb d_M_into_126 (by decide) ?_
                  exact pm_ret hx hb hr hlk (by decide) (by rw [f_M_into, if_pos c_1, if_neg c_2, if_neg c_3, if_neg c_4, if_neg c_5, if_pos c_6, if_neg c_16, if_neg c_17]) d_M_into_127
                · skip
                  refine lv_iconst (v := 1) hx hb d_M_into_122 (by decide) ?_
                  refine lv_goto (tgt := 127) hx hb d_M_into_123 (by decide) ?_
                  exact pm_ret hx hb hr hlk (by decide) (by rw [f_M_into, if_pos c_1, if_neg c_2, if_neg c_3, if_neg c_4, if_neg c_5, if_pos c_6, if_neg c_16, if_pos c_17]) d_M_into_127
          · skip
            refine lv_iload_n hx hb d_M_into_86 rfl (lv_at hl 1 rfl) ?_
            refine lv_bipush (v := 15) hx hb d_M_into_87 (by decide) ?_
            refine lv_icmp_eq (tgt := 98) hx hb d_M_into_89 (by decide) (fun c_18 => ?_) (fun c_18 => ?_)
            · skip
              refine lv_iconst (v := 1) hx hb d_M_into_98 (by decide) ?_
              refine lv_goto (tgt := 103) hx hb d_M_into_99 (by decide) ?_
              exact pm_ret hx hb hr hlk (by decide) (by rw [f_M_into, if_pos c_1, if_neg c_2, if_neg c_3, if_neg c_4, if_pos c_5, if_pos c_18]) d_M_into_103
            · skip
              refine lv_iload_n hx hb d_M_into_92 rfl (lv_at hl 1 rfl) ?_
              refine lv_bipush (v := 23) hx hb d_M_into_93 (by decide) ?_
              refine lv_icmp_ne (tgt := 102) hx hb d_M_into_95 (by decide) (fun c_19 => ?_) (fun c_19 => ?_)
              · skip
                refine lv_iconst (v := 0) hx hb d_M_into_102 (by decide) ?_
                exact pm_ret hx hb hr hlk (by decide) (by rw [f_M_into, if_pos c_1, if_neg c_2, if_neg c_3, if_neg c_4, if_pos c_5, if_neg c_18, if_neg c_19]) d_M_into_103
              · skip
                refine lv_iconst (v := 1) hx hb d_M_into_98 (by decide) ?_
                refine lv_goto (tgt := 103) hx hb d_M_into_99 (by decide) ?_
                exact pm_ret hx hb hr hlk (by decide) (by rw [f_M_into, if_pos c_1, if_neg c_2, if_neg c_3, if_neg c_4, if_pos c_5, if_neg c_18, if_pos c_19]) d_M_into_103
        · skip
          refine lv_iload_n hx hb d_M_into_68 rfl (lv_at hl 1 rfl) ?_
          refine lv_bipush (v := 24) hx hb d_M_into_69 (by decide) ?_
          refine lv_icmp_ne (tgt := 78) hx hb d_M_into_71 (by decide) (fun c_20 => ?_) (fun c_20 => ?_)
          · skip
            refine lv_iconst (v := 0) hx hb d_M_into_78 (by decide) ?_
            exact pm_ret hx hb hr hlk (by decide) (by rw [f_M_into, if_pos c_1, if_neg c_2, if_neg c_3, if_pos c_4, if_neg c_20]) d_M_into_79
          · skip
            refine lv_iconst (v := 1) hx hb d_M_into_74 (by decide) ?_
            refine lv_goto (tgt := 79) hx hb d_M_into_75 (by decide) ?_
            exact pm_ret hx hb hr hlk (by decide) (by rw [f_M_into, if_pos c_1, if_neg c_2, if_neg c_3, if_pos c_4, if_pos c_20]) d_M_into_79
      · skip
        refine lv_iload_n hx hb d_M_into_49 rfl (lv_at hl 1 rfl) ?_
        refine pm_callE hF hN (c_M_primitive l u) k_M_primitive j_M_102 ⟨Nat.le_of_ble_eq_true rfl, Nat.le_of_ble_eq_true rfl⟩ rfl hl.1 (Nat.le_of_ble_eq_true rfl) d_M_into_50 ⟨Nat.le_refl _, Nat.le_refl _⟩ ?_
        refine lv_if_ne (tgt := 60) hx hb d_M_into_53 (by decide) (fun c_22 => ?_) (fun c_22 => ?_)
        · skip
          refine lv_iconst (v := 0) hx hb d_M_into_60 (by decide) ?_
          exact pm_ret hx hb hr hlk (by decide) (by rw [f_M_into, if_pos c_1, if_neg c_2, if_pos c_3, if_neg c_22]) d_M_into_61
        · skip
          refine lv_iconst (v := 1) hx hb d_M_into_56 (by decide) ?_
          refine lv_goto (tgt := 61) hx hb d_M_into_57 (by decide) ?_
          exact pm_ret hx hb hr hlk (by decide) (by rw [f_M_into, if_pos c_1, if_neg c_2, if_pos c_3, if_pos c_22]) d_M_into_61
    · skip
      refine lv_iconst (v := 1) hx hb d_M_into_41 (by decide) ?_
      exact pm_ret hx hb hr hlk (by decide) (by rw [f_M_into, if_pos c_1, if_pos c_2]) d_M_into_42
  · skip
    refine lv_iload_n hx hb d_M_into_10 rfl (lv_at hl 0 rfl) ?_
    refine lv_bipush (v := 40) hx hb d_M_into_11 (by decide) ?_
    refine lv_icmp_lt (tgt := 36) hx hb d_M_into_13 (by decide) (fun c_23 => ?_) (fun c_23 => ?_)
    · skip
      refine lv_iload_n hx hb d_M_into_36 rfl (lv_at hl 1 rfl) ?_
      refine lv_iload_n hx hb d_M_into_37 rfl (lv_at hl 0 rfl) ?_
      refine lv_icmp_ne (tgt := 43) hx hb d_M_into_38 (by decide) (fun c_24 => ?_) (fun c_24 => ?_)
      · skip
        refine lv_iload_n hx hb d_M_into_43 rfl (lv_at hl 0 rfl) ?_
        refine lv_bipush (v := 9) hx hb d_M_into_44 (by decide) ?_
        refine lv_icmp_ne (tgt := 62) hx hb d_M_into_46 (by decide) (fun c_25 => ?_) (fun c_25 => ?_)
        · skip
          refine lv_iload_n hx hb d_M_into_62 rfl (lv_at hl 0 rfl) ?_
          refine lv_bipush (v := 10) hx hb d_M_into_63 (by decide) ?_
          refine lv_icmp_ne (tgt := 80) hx hb d_M_into_65 (by decide) (fun c_26 => ?_) (fun c_26 => ?_)
          · skip
            refine lv_iload_n hx hb d_M_into_80 rfl (lv_at hl 0 rfl) ?_
            refine lv_bipush (v := 12) hx hb d_M_into_81 (by decide) ?_
            refine lv_icmp_ne (tgt := 104) hx hb d_M_into_83 (by decide) (fun c_27 => ?_) (fun c_27 => ?_)
            · skip
              refine lv_iload_n hx hb d_M_into_104 rfl (lv_at hl 0 rfl) ?_
              refine lv_bipush (v := 13) hx hb d_M_into_105 (by decide) ?_
              refine lv_icmp_ne (tgt := 128) hx hb d_M_into_107 (by decide) (fun c_28 => ?_) (fun c_28 => ?_)
              · skip
                refine lv_iload_n hx hb d_M_into_128 rfl (lv_at hl 0 rfl) ?_
                refine lv_bipush (v := 16) hx hb d_M_into_129 (by decide) ?_
                refine lv_icmp_ne (tgt := 146) hx hb d_M_into_131 (by decide) (fun c_29 => ?_) (fun c_29 => ?_)
                · skip
                  refine lv_iload_n hx hb d_M_into_146 rfl (lv_at hl 0 rfl) ?_
                  refine lv_bipush (v := 21) hx hb d_M_into_147 (by decide) ?_
                  refine lv_icmp_ne (tgt := 164) hx hb d_M_into_149 (by decide) (fun c_30 => ?_) (fun c_30 => ?_)
                  · skip
                    refine lv_iload_n hx hb d_M_into_164 rfl (lv_at hl 0 rfl) ?_
                    refine lv_bipush (v := 22) hx hb d_M_into_165 (by decide) ?_
                    refine lv_icmp_ne (tgt := 180) hx hb d_M_into_167 (by decide) (fun c_31 => ?_) (fun c_31 => ?_)
                    · skip
                      refine lv_iconst (v := 0) hx hb d_M_into_180 (by decide) ?_
                      exact pm_ret hx hb hr hlk (by decide) (by rw [f_M_into, if_neg c_1, if_pos c_23, if_neg c_24, if_neg c_25, if_neg c_26, if_neg c_27, if_neg c_28, if_neg c_29, if_neg c_30, if_neg c_31]) d_M_into_181
                    · skip
                      refine lv_iload_n hx hb d_M_into_170 rfl (lv_at hl 1 rfl) ?_
                      refine lv_bipush (v := 23) hx hb d_M_into_171 (by decide) ?_
                      refine lv_icmp_ne (tgt := 180) hx hb d_M_into_173 (by decide) (fun c_32 => ?_) (fun c_32 => ?_)
                      · skip
                        refine lv_iconst (v := 0) hx hb d_M_into_180 (by decide) ?_
                        exact pm_ret hx hb hr hlk (by decide) (by rw [f_M_into, if_neg c_1, if_pos c_23, if_neg c_24, if_neg c_25, if_neg c_26, if_neg c_27, if_neg c_28, if_neg c_29, if_neg c_30, if_pos c_31, if_neg c_32]) d_M_into_181
                      · skip
                        refine lv_iconst (v := 1) hx hb d_M_into_176 (by decide) ?_
                        refine lv_goto (tgt := 181) hx hb d_M_into_177 (by decide) ?_
                        exact pm_ret hx hb hr hlk (by decide) (by rw [f_M_into, if_neg c_1, if_pos c_23, if_neg c_24, if_neg c_25, if_neg c_26, if_neg c_27, if_neg c_28, if_neg c_29, if_neg c_30, if_pos c_31, if_pos c_32]) d_M_into_181
                  · skip
                    refine lv_iload_n hx hb d_M_into_152 rfl (lv_at hl 1 rfl) ?_
                    refine lv_bipush (v := 22) hx hb d_M_into_153 (by decide) ?_
                    refine lv_icmp_eq (tgt := 176) hx hb d_M_into_155 (by decide) (fun c_33 => ?_) (fun c_33 => ?_)
                    · skip
                      refine lv_iconst (v := 1) hx hb d_M_into_176 (by decide) ?_
                      refine lv_goto (tgt := 181) hx hb d_M_into_177 (by decide) ?_
                      exact pm_ret hx hb hr hlk (by decide) (by rw [f_M_into, if_neg c_1, if_pos c_23, if_neg c_24, if_neg c_25, if_neg c_26, if_neg c_27, if_neg c_28, if_neg c_29, if_pos c_30, if_pos c_33]) d_M_into_181
                    · skip
                      refine lv_iload_n hx hb d_M_into_158 rfl (lv_at hl 1 rfl) ?_
                      refine lv_bipush (v := 23) hx hb d_M_into_159 (by decide) ?_
                      refine lv_icmp_eq (tgt := 176) hx hb d_M_into_161 (by decide) (fun c_34 => ?_) (fun c_34 => ?_)
                      · skip
                        refine lv_iconst (v := 1) hx hb d_M_into_176 (by decide) ?_
                        refine lv_goto (tgt := 181) hx hb d_M_into_177 (by decide) ?_
                        exact pm_ret hx hb hr hlk (by decide) (by rw [f_M_into, if_neg c_1, if_pos c_23, if_neg c_24, if_neg c_25, if_neg c_26, if_neg c_27, if_neg c_28, if_neg c_29, if_pos c_30, if_neg c_33, if_pos c_34]) d_M_into_181
                      · skip
                        refine lv_iload_n hx hb d_M_into_164 rfl (lv_at hl 0 rfl) ?_
                        refine lv_bipush (v := 22) hx hb d_M_into_165 (by decide) ?_
                        refine lv_icmp_ne (tgt := 180) hx hb d_M_into_167 (by decide) (fun c_35 => ?_) (fun c_35 => ?_)
                        · skip
                          refine lv_iconst (v := 0) hx hb d_M_into_180 (by decide) ?_
                          exact pm_ret hx hb hr hlk (by decide) (by rw [f_M_into, if_neg c_1, if_pos c_23, if_neg c_24, if_neg c_25, if_neg c_26, if_neg c_27, if_neg c_28, if_neg c_29, if_pos c_30, if_neg c_33, if_neg c_34, if_neg c_35]) d_M_into_181
                        · skip
                          refine lv_iload_n hx hb d_M_into_170 rfl (lv_at hl 1 rfl) ?_
                          refine lv_bipush (v := 23) hx hb d_M_into_171 (by decide) ?_
                          refine lv_icmp_ne (tgt := 180) hx hb d_M_into_173 (by decide) (fun c_36 => ?_) (fun c_36 => ?_)
                          · skip
                            refine lv_iconst (v := 0) hx hb d_M_into_180 (by decide) ?_
                            exact pm_ret hx hb hr hlk (by decide) (by rw [f_M_into, if_neg c_1, if_pos c_23, if_neg c_24, if_neg c_25, if_neg c_26, if_neg c_27, if_neg c_28, if_neg c_29, if_pos c_30, if_neg c_33, if_neg c_34, if_pos c_35]) d_M_into_181
                          · exact absurd c_36 c_34
                · skip
                  refine lv_iload_n hx hb d_M_into_134 rfl (lv_at hl 1 rfl) ?_
                  refine lv_bipush (v := 17) hx hb d_M_into_135 (by decide) ?_
                  refine lv_icmp_ne (tgt := 144) hx hb d_M_into_137 (by decide) (fun c_37 => ?_) (fun c_37 => ?_)
                  · skip
                    refine lv_iconst (v := 0) hx hb d_M_into_144 (by decide) ?_
                    exact pm_ret hx hb hr hlk (by decide) (by rw [f_M_into, if_neg c_1, if_pos c_23, if_neg c_24, if_neg c_25, if_neg c_26, if_neg c_27, if_neg c_28, if_pos c_29, if_neg c_37]) d_M_into_145
                  · skip
                    refine lv_iconst (v := 1) hx hb d_M_into_140 (by decide) ?_
                    refine lv_goto (tgt := 145) hx hb d_M_into_141 (by decide) ?_
                    exact pm_ret hx hb hr hlk (by decide) (by rw [f_M_into, if_neg c_1, if_pos c_23, if_neg c_24, if_neg c_25, if_neg c_26, if_neg c_27, if_neg c_28, if_pos c_29, if_pos c_37]) d_M_into_145
              · skip
                refine lv_iload_n hx hb d_M_into_110 rfl (lv_at hl 1 rfl) ?_
                refine lv_bipush (v := 14) hx hb d_M_into_111 (by decide) ?_
                refine lv_icmp_eq (tgt := 122) hx hb d_M_into_113 (by decide) (fun c_38 => ?_) (fun c_38 => ?_)
                · skip
                  refine lv_iconst (v := 1) hx hb d_M_into_122 (by decide) ?_
                  refine lv_goto (tgt := 127) hx hb d_M_into_123 (by decide) ?_
                  exact pm_ret hx hb hr hlk (by decide) (by rw [f_M_into, if_neg c_1, if_pos c_23, if_neg c_24, if_neg c_25, if_neg c_26, if_neg c_27, if_pos c_28, if_pos c_38]) d_M_into_127
                · skip
                  refine lv_iload_n hx hb d_M_into_116 rfl (lv_at hl 1 rfl) ?_
                  refine lv_bipush (v := 15) hx hb d_M_into_117 (by decide) ?_
                  refine lv_icmp_ne (tgt := 126) hx hb d_M_into_119 (by decide) (fun c_39 => ?_) (fun c_39 => ?_)
                  · skip
                    refine lv_iconst (v := 0) hx hb d_M_into_126 (by decide) ?_
                    exact pm_ret hx hb hr hlk (by decide) (by rw [f_M_into, if_neg c_1, if_pos c_23, if_neg c_24, if_neg c_25, if_neg c_26, if_neg c_27, if_pos c_28, if_neg c_38, if_neg c_39]) d_M_into_127
                  · skip
                    refine lv_iconst (v := 1) hx hb d_M_into_122 (by decide) ?_
                    refine lv_goto (tgt := 127) hx hb d_M_into_123 (by decide) ?_
                    exact pm_ret hx hb hr hlk (by decide) (by rw [f_M_into, if_neg c_1, if_pos c_23, if_neg c_24, if_neg c_25, if_neg c_26, if_neg c_27, if_pos c_28, if_neg c_38, if_pos c_39]) d_M_into_127
            · skip
              refine lv_iload_n hx hb d_M_into_86 rfl (lv_at hl 1 rfl) ?_
              refine lv_bipush (v := 15) hx hb d_M_into_87 (by decide) ?_
              refine lv_icmp_eq (tgt := 98) hx hb d_M_into_89 (by decide) (fun c_40 => ?_) (fun c_40 => ?_)
              · skip
                refine lv_iconst (v := 1) hx hb d_M_into_98 (by decide) ?_
                refine lv_goto (tgt := 103) hx hb d_M_into_99 (by decide) ?_
                exact pm_ret hx hb hr hlk (by decide) (by rw [f_M_into, if_neg c_1, if_pos c_23, if_neg c_24, if_neg c_25, if_neg c_26, if_pos c_27, if_pos c_40]) d_M_into_103
              · skip
                refine lv_iload_n hx hb d_M_into_92 rfl (lv_at hl 1 rfl) ?_
                refine lv_bipush (v := 23) hx hb d_M_into_93 (by decide) ?_
                refine lv_icmp_ne (tgt := 102) hx hb d_M_into_95 (by decide) (fun c_41 => ?_) (fun c_41 => ?_)
                · skip
                  refine lv_iconst (v := 0) hx hb d_M_into_102 (by decide) ?_
                  exact pm_ret hx hb hr hlk (by decide) (by rw [f_M_into, if_neg c_1, if_pos c_23, if_neg c_24, if_neg c_25, if_neg c_26, if_pos c_27, if_neg c_40, if_neg c_41]) d_M_into_103
                · skip
                  refine lv_iconst (v := 1) hx hb d_M_into_98 (by decide) ?_
                  refine lv_goto (tgt := 103) hx hb d_M_into_99 (by decide) ?_
                  exact pm_ret hx hb hr hlk (by decide) (by rw [f_M_into, if_neg c_1, if_pos c_23, if_neg c_24, if_neg c_25, if_neg c_26, if_pos c_27, if_neg c_40, if_pos c_41]) d_M_into_103
          · skip
            refine lv_iload_n hx hb d_M_into_68 rfl (lv_at hl 1 rfl) ?_
            refine lv_bipush (v := 24) hx hb d_M_into_69 (by decide) ?_
            refine lv_icmp_ne (tgt := 78) hx hb d_M_into_71 (by decide) (fun c_42 => ?_) (fun c_42 => ?_)
            · skip
              refine lv_iconst (v := 0) hx hb d_M_into_78 (by decide) ?_
              exact pm_ret hx hb hr hlk (by decide) (by rw [f_M_into, if_neg c_1, if_pos c_23, if_neg c_24, if_neg c_25, if_pos c_26, if_neg c_42]) d_M_into_79
            · skip
              refine lv_iconst (v := 1) hx hb d_M_into_74 (by decide) ?_
              refine lv_goto (tgt := 79) hx hb d_M_into_75 (by decide) ?_
              exact pm_ret hx hb hr hlk (by decide) (by rw [f_M_into, if_neg c_1, if_pos c_23, if_neg c_24, if_neg c_25, if_pos c_26, if_pos c_42]) d_M_into_79
        · skip
          refine lv_iload_n hx hb d_M_into_49 rfl (lv_at hl 1 rfl) ?_
          refine pm_callE hF hN (c_M_primitive l u) k_M_primitive j_M_102 ⟨Nat.le_of_ble_eq_true rfl, Nat.le_of_ble_eq_true rfl⟩ rfl hl.1 (Nat.le_of_ble_eq_true rfl) d_M_into_50 ⟨Nat.le_refl _, Nat.le_refl _⟩ ?_
          refine lv_if_ne (tgt := 60) hx hb d_M_into_53 (by decide) (fun c_44 => ?_) (fun c_44 => ?_)
          · skip
            refine lv_iconst (v := 0) hx hb d_M_into_60 (by decide) ?_
            exact pm_ret hx hb hr hlk (by decide) (by rw [f_M_into, if_neg c_1, if_pos c_23, if_neg c_24, if_pos c_25, if_neg c_44]) d_M_into_61
          · skip
            refine lv_iconst (v := 1) hx hb d_M_into_56 (by decide) ?_
            refine lv_goto (tgt := 61) hx hb d_M_into_57 (by decide) ?_
            exact pm_ret hx hb hr hlk (by decide) (by rw [f_M_into, if_neg c_1, if_pos c_23, if_neg c_24, if_pos c_25, if_pos c_44]) d_M_into_61
      · skip
        refine lv_iconst (v := 1) hx hb d_M_into_41 (by decide) ?_
        exact pm_ret hx hb hr hlk (by decide) (by rw [f_M_into, if_neg c_1, if_pos c_23, if_pos c_24]) d_M_into_42
    · skip
      refine lv_iload_n hx hb d_M_into_16 rfl (lv_at hl 1 rfl) ?_
      refine lv_iload_n hx hb d_M_into_17 rfl (lv_at hl 0 rfl) ?_
      refine lv_icmp_eq (tgt := 36) hx hb d_M_into_18 (by decide) (fun c_45 => ?_) (fun c_45 => ?_)
      · skip
        refine lv_iload_n hx hb d_M_into_36 rfl (lv_at hl 1 rfl) ?_
        refine lv_iload_n hx hb d_M_into_37 rfl (lv_at hl 0 rfl) ?_
        refine lv_icmp_ne (tgt := 43) hx hb d_M_into_38 (by decide) (fun c_46 => ?_) (fun c_46 => ?_)
        · exact absurd c_45 c_46
        · skip
          refine lv_iconst (v := 1) hx hb d_M_into_41 (by decide) ?_
          exact pm_ret hx hb hr hlk (by decide) (by rw [f_M_into, if_neg c_1, if_neg c_23, if_pos c_45]) d_M_into_42
      · skip
        refine lv_iinc (v := (u + (-40))) (lv' := [(2, .int (u + (-40))), (3, .int t), (0, .int u), (1, .int t)]) hx hb d_M_into_21 hl (k := 1) rfl (by first | rfl | decide) (by decide) rfl (fun ls hl => ?_)
        refine lv_iinc (v := (t + (-40))) (lv' := [(3, .int (t + (-40))), (2, .int (u + (-40))), (0, .int u), (1, .int t)]) hx hb d_M_into_24 hl (k := 1) rfl (by first | rfl | decide) (by decide) rfl (fun ls hl => ?_)
        refine lv_iload_n hx hb d_M_into_27 rfl (lv_at hl 1 rfl) ?_
        refine pm_callE hF hN (c_M_primitive l (u + (-40))) k_M_primitive j_M_102 ⟨Nat.le_of_ble_eq_true rfl, Nat.le_of_ble_eq_true rfl⟩ rfl hl.1 (Nat.le_of_ble_eq_true rfl) d_M_into_28 ⟨Nat.le_refl _, Nat.le_refl _⟩ ?_
        refine lv_if_eq (tgt := 4) hx hb d_M_into_31 (by decide) (fun c_48 => ?_) (fun c_48 => ?_)
        · skip
          refine lv_iload_n hx hb d_M_into_4 rfl (lv_at hl 1 rfl) ?_
          refine lv_bipush (v := 40) hx hb d_M_into_5 (by decide) ?_
          refine lv_icmp_lt (tgt := 36) hx hb d_M_into_7 (by decide) (fun c_49 => ?_) (fun c_49 => ?_)
          · skip
            refine lv_iload_n hx hb d_M_into_36 rfl (lv_at hl 1 rfl) ?_
            refine lv_iload_n hx hb d_M_into_37 rfl (lv_at hl 0 rfl) ?_
            refine lv_icmp_ne (tgt := 43) hx hb d_M_into_38 (by decide) (fun c_50 => ?_) (fun c_50 => ?_)
            · skip
              refine lv_iload_n hx hb d_M_into_43 rfl (lv_at hl 0 rfl) ?_
              refine lv_bipush (v := 9) hx hb d_M_into_44 (by decide) ?_
              refine lv_icmp_ne (tgt := 62) hx hb d_M_into_46 (by decide) (fun c_51 => ?_) (fun c_51 => ?_)
              · skip
                refine lv_iload_n hx hb d_M_into_62 rfl (lv_at hl 0 rfl) ?_
                refine lv_bipush (v := 10) hx hb d_M_into_63 (by decide) ?_
                refine lv_icmp_ne (tgt := 80) hx hb d_M_into_65 (by decide) (fun c_52 => ?_) (fun c_52 => ?_)
                · skip
                  refine lv_iload_n hx hb d_M_into_80 rfl (lv_at hl 0 rfl) ?_
                  refine lv_bipush (v := 12) hx hb d_M_into_81 (by decide) ?_
                  refine lv_icmp_ne (tgt := 104) hx hb d_M_into_83 (by decide) (fun c_53 => ?_) (fun c_53 => ?_)
                  · skip
                    refine lv_iload_n hx hb d_M_into_104 rfl (lv_at hl 0 rfl) ?_
                    refine lv_bipush (v := 13) hx hb d_M_into_105 (by decide) ?_
                    refine lv_icmp_ne (tgt := 128) hx hb d_M_into_107 (by decide) (fun c_54 => ?_) (fun c_54 => ?_)
                    · skip
                      refine lv_iload_n hx hb d_M_into_128 rfl (lv_at hl 0 rfl) ?_
                      refine lv_bipush (v := 16) hx hb d_M_into_129 (by decide) ?_
                      refine lv_icmp_ne (tgt := 146) hx hb d_M_into_131 (by decide) (fun c_55 => ?_) (fun c_55 => ?_)
                      · skip
                        refine lv_iload_n hx hb d_M_into_146 rfl (lv_at hl 0 rfl) ?_
                        refine lv_bipush (v := 21) hx hb d_M_into_147 (by decide) ?_
                        refine lv_icmp_ne (tgt := 164) hx hb d_M_into_149 (by decide) (fun c_56 => ?_) (fun c_56 => ?_)
                        · skip
                          refine lv_iload_n hx hb d_M_into_164 rfl (lv_at hl 0 rfl) ?_
                          refine lv_bipush (v := 22) hx hb d_M_into_165 (by decide) ?_
                          refine lv_icmp_ne (tgt := 180) hx hb d_M_into_167 (by decide) (fun c_57 => ?_) (fun c_57 => ?_)
                          · skip
                            refine lv_iconst (v := 0) hx hb d_M_into_180 (by decide) ?_
                            exact pm_ret hx hb hr hlk (by decide) (by rw [f_M_into, if_neg c_1, if_neg c_23, if_neg c_45, if_pos c_48, if_pos c_49, if_neg c_50, if_neg c_51, if_neg c_52, if_neg c_53, if_neg c_54, if_neg c_55, if_neg c_56, if_neg c_57]) d_M_into_181
                          · skip
                            refine lv_iload_n hx hb d_M_into_170 rfl (lv_at hl 1 rfl) ?_
                            refine lv_bipush (v := 23) hx hb d_M_into_171 (by decide) ?_
                            refine lv_icmp_ne (tgt := 180) hx hb d_M_into_173 (by decide) (fun c_58 => ?_) (fun c_58 => ?_)
                            · skip
                              refine lv_iconst (v := 0) hx hb d_M_into_180 (by decide) ?_
                              exact pm_ret hx hb hr hlk (by decide) (by rw [f_M_into, if_neg c_1, if_neg c_23, if_neg c_45, if_pos c_48, if_pos c_49, if_neg c_50, if_neg c_51, if_neg c_52, if_neg c_53, if_neg c_54, if_neg c_55, if_neg c_56, if_pos c_57, if_neg c_58]) d_M_into_181
                            · skip
                              refine lv_iconst (v := 1) hx hb d_M_into_176 (by decide) ?_
                              refine lv_goto (tgt := 181) hx hb d_M_into_177 (by decide) ?_
                              exact pm_ret hx hb hr hlk (by decide) (by rw [f_M_into, if_neg c_1, if_neg c_23, if_neg c_45, if_pos c_48, if_pos c_49, if_neg c_50, if_neg c_51, if_neg c_52, if_neg c_53, if_neg c_54, if_neg c_55, if_neg c_56, if_pos c_57, if_pos c_58]) d_M_into_181
                        · skip
                          refine lv_iload_n hx hb d_M_into_152 rfl (lv_at hl 1 rfl) ?_
                          refine lv_bipush (v := 22) hx hb d_M_into_153 (by decide) ?_
                          refine lv_icmp_eq (tgt := 176) hx hb d_M_into_155 (by decide) (fun c_59 => ?_) (fun c_59 => ?_)
                          · skip
                            refine lv_iconst (v := 1) hx hb d_M_into_176 (by decide) ?_
                            refine lv_goto (tgt := 181) hx hb d_M_into_177 (by decide) ?_
                            exact pm_ret hx hb hr hlk (by decide) (by rw [f_M_into, if_neg c_1, if_neg c_23, if_neg c_45, if_pos c_48, if_pos c_49, if_neg c_50, if_neg c_51, if_neg c_52, if_neg c_53, if_neg c_54, if_neg c_55, if_pos c_56, if_pos c_59]) d_M_into_181
                          · skip
                            refine lv_iload_n hx hb d_M_into_158 rfl (lv_at hl 1 rfl) ?_
                            refine lv_bipush (v := 23) hx hb d_M_into_159 (by decide) ?_
                            refine lv_icmp_eq (tgt := 176) hx hb d_M_into_161 (by decide) (fun c_60 => ?_) (fun c_60 => ?_)
                            · skip
                              refine lv_iconst (v := 1) hx hb d_M_into_176 (by decide) ?_
                              refine lv_goto (tgt := 181) hx hb d_M_into_177 (by decide) ?_
                              exact pm_ret hx hb hr hlk (by decide) (by rw [f_M_into, if_neg c_1, if_neg c_23, if_neg c_45, if_pos c_48, if_pos c_49, if_neg c_50, if_neg c_51, if_neg c_52, if_neg c_53, if_neg c_54, if_neg c_55, if_pos c_56, if_neg c_59, if_pos c_60]) d_M_into_181
                            · skip
                              refine lv_iload_n hx hb d_M_into_164 rfl (lv_at hl 0 rfl) ?_
                              refine lv_bipush (v := 22) hx hb d_M_into_165 (by decide) ?_
                              refine lv_icmp_ne (tgt := 180) hx hb d_M_into_167 (by decide) (fun c_61 => ?_) (fun c_61 => ?_)
                              · skip
                                refine lv_iconst (v := 0) hx hb d_M_into_180 (by decide) ?_
                                exact pm_ret hx hb hr hlk (by decide) (by rw [f_M_into, if_neg c_1, if_neg c_23, if_neg c_45, if_pos c_48, if_pos c_49, if_neg c_50, if_neg c_51, if_neg c_52, if_neg c_53, if_neg c_54, if_neg c_55, if_pos c_56, if_neg c_59, if_neg c_60, if_neg c_61]) d_M_into_181
                              · skip
                                refine lv_iload_n hx hb d_M_into_170 rfl (lv_at hl 1 rfl) ?_
                                refine lv_bipush (v := 23) hx hb d_M_into_171 (by decide) ?_
                                refine lv_icmp_ne (tgt := 180) hx hb d_M_into_173 (by decide) (fun c_62 => ?_) (fun c_62 => ?_)
                                · skip
                                  refine lv_iconst (v := 0) hx hb d_M_into_180 (by decide) ?_
                                  exact pm_ret hx hb hr hlk (by decide) (by rw [f_M_into, if_neg c_1, if_neg c_23, if_neg c_45, if_pos c_48, if_pos c_49, if_neg c_50, if_neg c_51, if_neg c_52, if_neg c_53, if_neg c_54, if_neg c_55, if_pos c_56, if_neg c_59, if_neg c_60, if_pos c_61]) d_M_into_181
                                · exact absurd c_62 c_60
                      · skip
                        refine lv_iload_n hx hb d_M_into_134 rfl (lv_at hl 1 rfl) ?_
                        refine lv_bipush (v := 17) hx hb d_M_into_135 (by decide) ?_
                        refine lv_icmp_ne (tgt := 144) hx hb d_M_into_137 (by decide) (fun c_63 => ?_) (fun c_63 => ?_)
                        · skip
                          refine lv_iconst (v := 0) hx hb d_M_into_144 (by decide) ?_
                          exact pm_ret hx hb hr hlk (by decide) (by rw [f_M_into, if_neg c_1, if_neg c_23, if_neg c_45, if_pos c_48, if_pos c_49, if_neg c_50, if_neg c_51, if_neg c_52, if_neg c_53, if_neg c_54, if_pos c_55, if_neg c_63]) d_M_into_145
                        · skip
                          refine lv_iconst (v := 1) hx hb d_M_into_140 (by decide) ?_
                          refine lv_goto (tgt := 145) hx hb d_M_into_141 (by decide) ?_
                          exact pm_ret hx hb hr hlk (by decide) (by rw [f_M_into, if_neg c_1, if_neg c_23, if_neg c_45, if_pos c_48, if_pos c_49, if_neg c_50, if_neg c_51, if_neg c_52, if_neg c_53, if_neg c_54, if_pos c_55, if_pos c_63]) d_M_into_145
                    · skip
                      refine lv_iload_n hx hb d_M_into_110 rfl (lv_at hl 1 rfl) ?_
                      refine lv_bipush (v := 14) hx hb d_M_into_111 (by decide) ?_
                      refine lv_icmp_eq (tgt := 122) hx hb d_M_into_113 (by decide) (fun c_64 => ?_) (fun c_64 => ?_)
                      · skip
                        refine lv_iconst (v := 1) hx hb d_M_into_122 (by decide) ?_
                        refine lv_goto (tgt := 127) hx hb d_M_into_123 (by decide) ?_
                        exact pm_ret hx hb hr hlk (by decide) (by rw [f_M_into, if_neg c_1, if_neg c_23, if_neg c_45, if_pos c_48, if_pos c_49, if_neg c_50, if_neg c_51, if_neg c_52, if_neg c_53, if_pos c_54, if_pos c_64]) d_M_into_127
                      · skip
                        refine lv_iload_n hx hb d_M_into_116 rfl (lv_at hl 1 rfl) ?_
                        refine lv_bipush (v := 15) hx hb d_M_into_117 (by decide) ?_
                        refine lv_icmp_ne (tgt := 126) hx hb d_M_into_119 (by decide) (fun c_65 => ?_) (fun c_65 => ?_)
                        · skip
                          refine lv_iconst (v := 0) hx hb d_M_into_126 (by decide) ?_
                          exact pm_ret hx hb hr hlk (by decide) (by rw [f_M_into, if_neg c_1, if_neg c_23, if_neg c_45, if_pos c_48, if_pos c_49, if_neg c_50, if_neg c_51, if_neg c_52, if_neg c_53, if_pos c_54, if_neg c_64, if_neg c_65]) d_M_into_127
                        · skip
                          refine lv_iconst (v := 1) hx hb d_M_into_122 (by decide) ?_
                          refine lv_goto (tgt := 127) hx hb d_M_into_123 (by decide) ?_
                          exact pm_ret hx hb hr hlk (by decide) (by rw [f_M_into, if_neg c_1, if_neg c_23, if_neg c_45, if_pos c_48, if_pos c_49, if_neg c_50, if_neg c_51, if_neg c_52, if_neg c_53, if_pos c_54, if_neg c_64, if_pos c_65]) d_M_into_127
                  · skip
                    refine lv_iload_n hx hb d_M_into_86 rfl (lv_at hl 1 rfl) ?_
                    refine lv_bipush (v := 15) hx hb d_M_into_87 (by decide) ?_
                    refine lv_icmp_eq (tgt := 98) hx hb d_M_into_89 (by decide) (fun c_66 => ?_) (fun c_66 => ?_)
                    · skip
                      refine lv_iconst (v := 1) hx hb d_M_into_98 (by decide) ?_
                      refine lv_goto (tgt := 103) hx hb d_M_into_99 (by decide) ?_
                      exact pm_ret hx hb hr hlk (by decide) (by rw [f_M_into, if_neg c_1, if_neg c_23, if_neg c_45, if_pos c_48, if_pos c_49, if_neg c_50, if_neg c_51, if_neg c_52, if_pos c_53, if_pos c_66]) d_M_into_103
                    · skip
                      refine lv_iload_n hx hb d_M_into_92 rfl (lv_at hl 1 rfl) ?_
                      refine lv_bipush (v := 23) hx hb d_M_into_93 (by decide) ?_
                      refine lv_icmp_ne (tgt := 102) hx hb d_M_into_95 (by decide) (fun c_67 => ?_) (fun c_67 => ?_)
                      · skip
                        refine lv_iconst (v := 0) hx hb d_M_into_102 (by decide) ?_
                        exact pm_ret hx hb hr hlk (by decide) (by rw [f_M_into, if_neg c_1, if_neg c_23, if_neg c_45, if_pos c_48, if_pos c_49, if_neg c_50, if_neg c_51, if_neg c_52, if_pos c_53, if_neg c_66, if_neg c_67]) d_M_into_103
                      · skip
                        refine lv_iconst (v := 1) hx hb d_M_into_98 (by decide) ?_
                        refine lv_goto (tgt := 103) hx hb d_M_into_99 (by decide) ?_
                        exact pm_ret hx hb hr hlk (by decide) (by rw [f_M_into, if_neg c_1, if_neg c_23, if_neg c_45, if_pos c_48, if_pos c_49, if_neg c_50, if_neg c_51, if_neg c_52, if_pos c_53, if_neg c_66, if_pos c_67]) d_M_into_103
                · skip
                  refine lv_iload_n hx hb d_M_into_68 rfl (lv_at hl 1 rfl) ?_
                  refine lv_bipush (v := 24) hx hb d_M_into_69 (by decide) ?_
                  refine lv_icmp_ne (tgt := 78) hx hb d_M_into_71 (by decide) (fun c_68 => ?_) (fun c_68 => ?_)
                  · skip
                    refine lv_iconst (v := 0) hx hb d_M_into_78 (by decide) ?_
                    exact pm_ret hx hb hr hlk (by decide) (by rw [f_M_into, if_neg c_1, if_neg c_23, if_neg c_45, if_pos c_48, if_pos c_49, if_neg c_50, if_neg c_51, if_pos c_52, if_neg c_68]) d_M_into_79
                  · skip
                    refine lv_iconst (v := 1) hx hb d_M_into_74 (by decide) ?_
                    refine lv_goto (tgt := 79) hx hb d_M_into_75 (by decide) ?_
                    exact pm_ret hx hb hr hlk (by decide) (by rw [f_M_into, if_neg c_1, if_neg c_23, if_neg c_45, if_pos c_48, if_pos c_49, if_neg c_50, if_neg c_51, if_pos c_52, if_pos c_68]) d_M_into_79
              · skip
                refine lv_iload_n hx hb d_M_into_49 rfl (lv_at hl 1 rfl) ?_
                refine pm_callE hF hN (c_M_primitive l (u + (-40))) k_M_primitive j_M_102 ⟨Nat.le_of_ble_eq_true rfl, Nat.le_of_ble_eq_true rfl⟩ rfl hl.1 (Nat.le_of_ble_eq_true rfl) d_M_into_50 ⟨Nat.le_refl _, Nat.le_refl _⟩ ?_
                refine lv_if_ne (tgt := 60) hx hb d_M_into_53 (by decide) (fun c_70 => ?_) (fun c_70 => ?_)
                · exact absurd c_48 c_70
                · skip
                  refine lv_iconst (v := 1) hx hb d_M_into_56 (by decide) ?_
                  refine lv_goto (tgt := 61) hx hb d_M_into_57 (by decide) ?_
                  exact pm_ret hx hb hr hlk (by decide) (by rw [f_M_into, if_neg c_1, if_neg c_23, if_neg c_45, if_pos c_48, if_pos c_49, if_neg c_50, if_pos c_51]) d_M_into_61
            · skip
              refine lv_iconst (v := 1) hx hb d_M_into_41 (by decide) ?_
              exact pm_ret hx hb hr hlk (by decide) (by rw [f_M_into, if_neg c_1, if_neg c_23, if_neg c_45, if_pos c_48, if_pos c_49, if_pos c_50]) d_M_into_42
          · skip
            refine lv_iload_n hx hb d_M_into_10 rfl (lv_at hl 0 rfl) ?_
            refine lv_bipush (v := 40) hx hb d_M_into_11 (by decide) ?_
            refine lv_icmp_lt (tgt := 36) hx hb d_M_into_13 (by decide) (fun c_71 => ?_) (fun c_71 => ?_)
            · skip
              refine lv_iload_n hx hb d_M_into_36 rfl (lv_at hl 1 rfl) ?_
              refine lv_iload_n hx hb d_M_into_37 rfl (lv_at hl 0 rfl) ?_
              refine lv_icmp_ne (tgt := 43) hx hb d_M_into_38 (by decide) (fun c_72 => ?_) (fun c_72 => ?_)
              · skip
                refine lv_iload_n hx hb d_M_into_43 rfl (lv_at hl 0 rfl) ?_
                refine lv_bipush (v := 9) hx hb d_M_into_44 (by decide) ?_
                refine lv_icmp_ne (tgt := 62) hx hb d_M_into_46 (by decide) (fun c_73 => ?_) (fun c_73 => ?_)
                · skip
                  refine lv_iload_n hx hb d_M_into_62 rfl (lv_at hl 0 rfl) ?_
                  refine lv_bipush (v := 10) hx hb d_M_into_63 (by decide) ?_
                  refine lv_icmp_ne (tgt := 80) hx hb d_M_into_65 (by decide) (fun c_74 => ?_) (fun c_74 => ?_)
                  · skip
                    refine lv_iload_n hx hb d_M_into_80 rfl (lv_at hl 0 rfl) ?_
                    refine lv_bipush (v := 12) hx hb d_M_into_81 (by decide) ?_
                    refine lv_icmp_ne (tgt := 104) hx hb d_M_into_83 (by decide) (fun c_75 => ?_) (fun c_75 => ?_)
                    · skip
                      refine lv_iload_n hx hb d_M_into_104 rfl (lv_at hl 0 rfl) ?_
                      refine lv_bipush (v := 13) hx hb d_M_into_105 (by decide) ?_
                      refine lv_icmp_ne (tgt := 128) hx hb d_M_into_107 (by decide) (fun c_76 => ?_) (fun c_76 => ?_)
                      · skip
                        refine lv_iload_n hx hb d_M_into_128 rfl (lv_at hl 0 rfl) ?_
                        refine lv_bipush (v := 16) hx hb d_M_into_129 (by decide) ?_
                        refine lv_icmp_ne (tgt := 146) hx hb d_M_into_131 (by decide) (fun c_77 => ?_) (fun c_77 => ?_)
                        · skip
                          refine lv_iload_n hx hb d_M_into_146 rfl (lv_at hl 0 rfl) ?_
                          refine lv_bipush (v := 21) hx hb d_M_into_147 (by decide) ?_
                          refine lv_icmp_ne (tgt := 164) hx hb d_M_into_149 (by decide) (fun c_78 => ?_) (fun c_78 => ?_)
                          · skip
                            refine lv_iload_n hx hb d_M_into_164 rfl (lv_at hl 0 rfl) ?_
                            refine lv_bipush (v := 22) hx hb d_M_into_165 (by decide) ?_
                            refine lv_icmp_ne (tgt := 180) hx hb d_M_into_167 (by decide) (fun c_79 => ?_) (fun c_79 => ?_)
                            · skip
                              refine lv_iconst (v := 0) hx hb d_M_into_180 (by decide) ?_
                              exact pm_ret hx hb hr hlk (by decide) (by rw [f_M_into, if_neg c_1, if_neg c_23, if_neg c_45, if_pos c_48, if_neg c_49, if_pos c_71, if_neg c_72, if_neg c_73, if_neg c_74, if_neg c_75, if_neg c_76, if_neg c_77, if_neg c_78, if_neg c_79]) d_M_into_181
                            · skip
                              refine lv_iload_n hx hb d_M_into_170 rfl (lv_at hl 1 rfl) ?_
                              refine lv_bipush (v := 23) hx hb d_M_into_171 (by decide) ?_
                              refine lv_icmp_ne (tgt := 180) hx hb d_M_into_173 (by decide) (fun c_80 => ?_) (fun c_80 => ?_)
                              · skip
                                refine lv_iconst (v := 0) hx hb d_M_into_180 (by decide) ?_
                                exact pm_ret hx hb hr hlk (by decide) (by rw [f_M_into, if_neg c_1, if_neg c_23, if_neg c_45, if_pos c_48, if_neg c_49, if_pos c_71, if_neg c_72, if_neg c_73, if_neg c_74, if_neg c_75, if_neg c_76, if_neg c_77, if_neg c_78, if_pos c_79, if_neg c_80]) d_M_into_181
                              · skip
                                refine lv_iconst (v := 1) hx hb d_M_into_176 (by decide) ?_
                                refine lv_goto (tgt := 181) hx hb d_M_into_177 (by decide) ?_
                                exact pm_ret hx hb hr hlk (by decide) (by rw [f_M_into, if_neg c_1, if_neg c_23, if_neg c_45, if_pos c_48, if_neg c_49, if_pos c_71, if_neg c_72, if_neg c_73, if_neg c_74, if_neg c_75, if_neg c_76, if_neg c_77, if_neg c_78, if_pos c_79, if_pos c_80]) d_M_into_181
                          · skip
                            refine lv_iload_n hx hb d_M_into_152 rfl (lv_at hl 1 rfl) ?_
                            refine lv_bipush (v := 22) hx hb d_M_into_153 (by decide) ?_
                            refine lv_icmp_eq (tgt := 176) hx hb d_M_into_155 (by decide) (fun c_81 => ?_) (fun c_81 => ?_)
                            · skip
                              refine lv_iconst (v := 1) hx hb d_M_into_176 (by decide) ?_
                              refine lv_goto (tgt := 181) hx hb d_M_into_177 (by decide) ?_
                              exact pm_ret hx hb hr hlk (by decide) (by rw [f_M_into, if_neg c_1, if_neg c_23, if_neg c_45, if_pos c_48, if_neg c_49, if_pos c_71, if_neg c_72, if_neg c_73, if_neg c_74, if_neg c_75, if_neg c_76, if_neg c_77, if_pos c_78, if_pos c_81]) d_M_into_181
                            · skip
                              refine lv_iload_n hx hb d_M_into_158 rfl (lv_at hl 1 rfl) ?_
                              refine lv_bipush (v := 23) hx hb d_M_into_159 (by decide) ?_
                              refine lv_icmp_eq (tgt := 176) hx hb d_M_into_161 (by decide) (fun c_82 => ?_) (fun c_82 => ?_)
                              · skip
                                refine lv_iconst (v := 1) hx hb d_M_into_176 (by decide) ?_
                                refine lv_goto (tgt := 181) hx hb d_M_into_177 (by decide) ?_
                                exact pm_ret hx hb hr hlk (by decide) (by rw [f_M_into, if_neg c_1, if_neg c_23, if_neg c_45, if_pos c_48, if_neg c_49, if_pos c_71, if_neg c_72, if_neg c_73, if_neg c_74, if_neg c_75, if_neg c_76, if_neg c_77, if_pos c_78, if_neg c_81, if_pos c_82]) d_M_into_181
                              · skip
                                refine lv_iload_n hx hb d_M_into_164 rfl (lv_at hl 0 rfl) ?_
                                refine lv_bipush (v := 22) hx hb d_M_into_165 (by decide) ?_
                                refine lv_icmp_ne (tgt := 180) hx hb d_M_into_167 (by decide) (fun c_83 => ?_) (fun c_83 => ?_)
                                · skip
                                  refine lv_iconst (v := 0) hx hb d_M_into_180 (by decide) ?_
                                  exact pm_ret hx hb hr hlk (by decide) (by rw [f_M_into, if_neg c_1, if_neg c_23, if_neg c_45, if_pos c_48, if_neg c_49, if_pos c_71, if_neg c_72, if_neg c_73, if_neg c_74, if_neg c_75, if_neg c_76, if_neg c_77, if_pos c_78, if_neg c_81, if_neg c_82, if_neg c_83]) d_M_into_181
                                · skip
                                  refine lv_iload_n hx hb d_M_into_170 rfl (lv_at hl 1 rfl) ?_
                                  refine lv_bipush (v := 23) hx hb d_M_into_171 (by decide) ?_
                                  refine lv_icmp_ne (tgt := 180) hx hb d_M_into_173 (by decide) (fun c_84 => ?_) (fun c_84 => ?_)
                                  · skip
                                    refine lv_iconst (v := 0) hx hb d_M_into_180 (by decide) ?_
                                    exact pm_ret hx hb hr hlk (by decide) (by rw [f_M_into, if_neg c_1, if_neg c_23, if_neg c_45, if_pos c_48, if_neg c_49, if_pos c_71, if_neg c_72, if_neg c_73, if_neg c_74, if_neg c_75, if_neg c_76, if_neg c_77, if_pos c_78, if_neg c_81, if_neg c_82, if_pos c_83]) d_M_into_181
                                  · exact absurd c_84 c_82
                        · skip
                          refine lv_iload_n hx hb d_M_into_134 rfl (lv_at hl 1 rfl) ?_
                          refine lv_bipush (v := 17) hx hb d_M_into_135 (by decide) ?_
                          refine lv_icmp_ne (tgt := 144) hx hb d_M_into_137 (by decide) (fun c_85 => ?_) (fun c_85 => ?_)
                          · skip
                            refine lv_iconst (v := 0) hx hb d_M_into_144 (by decide) ?_
                            exact pm_ret hx hb hr hlk (by decide) (by rw [f_M_into, if_neg c_1, if_neg c_23, if_neg c_45, if_pos c_48, if_neg c_49, if_pos c_71, if_neg c_72, if_neg c_73, if_neg c_74, if_neg c_75, if_neg c_76, if_pos c_77, if_neg c_85]) d_M_into_145
                          · skip
                            refine lv_iconst (v := 1) hx hb d_M_into_140 (by decide) ?_
                            refine lv_goto (tgt := 145) hx hb d_M_into_141 (by decide) ?_
                            exact pm_ret hx hb hr hlk (by decide) (by rw [f_M_into, if_neg c_1, if_neg c_23, if_neg c_45, if_pos c_48, if_neg c_49, if_pos c_71, if_neg c_72, if_neg c_73, if_neg c_74, if_neg c_75, if_neg c_76, if_pos c_77, if_pos c_85]) d_M_into_145
                      · skip
                        refine lv_iload_n hx hb d_M_into_110 rfl (lv_at hl 1 rfl) ?_
                        refine lv_bipush (v := 14) hx hb d_M_into_111 (by decide) ?_
                        refine lv_icmp_eq (tgt := 122) hx hb d_M_into_113 (by decide) (fun c_86 => ?_) (fun c_86 => ?_)
                        · skip
                          refine lv_iconst (v := 1) hx hb d_M_into_122 (by decide) ?_
                          refine lv_goto (tgt := 127) hx hb d_M_into_123 (by decide) ?_
                          exact pm_ret hx hb hr hlk (by decide) (by rw [f_M_into, if_neg c_1, if_neg c_23, if_neg c_45, if_pos c_48, if_neg c_49, if_pos c_71, if_neg c_72, if_neg c_73, if_neg c_74, if_neg c_75, if_pos c_76, if_pos c_86]) d_M_into_127
                        · skip
                          refine lv_iload_n hx hb d_M_into_116 rfl (lv_at hl 1 rfl) ?_
                          refine lv_bipush (v := 15) hx hb d_M_into_117 (by decide) ?_
                          refine lv_icmp_ne (tgt := 126) hx hb d_M_into_119 (by decide) (fun c_87 => ?_) (fun c_87 => ?_)
                          · skip
                            refine lv_iconst (v := 0) hx hb d_M_into_126 (by decide) ?_
                            exact pm_ret hx hb hr hlk (by decide) (by rw [f_M_into, if_neg c_1, if_neg c_23, if_neg c_45, if_pos c_48, if_neg c_49, if_pos c_71, if_neg c_72, if_neg c_73, if_neg c_74, if_neg c_75, if_pos c_76, if_neg c_86, if_neg c_87]) d_M_into_127
                          · skip
                            refine lv_iconst (v := 1) hx hb d_M_into_122 (by decide) ?_
                            refine lv_goto (tgt := 127) hx hb d_M_into_123 (by decide) ?_
                            exact pm_ret hx hb hr hlk (by decide) (by rw [f_M_into, if_neg c_1, if_neg c_23, if_neg c_45, if_pos c_48, if_neg c_49, if_pos c_71, if_neg c_72, if_neg c_73, if_neg c_74, if_neg c_75, if_pos c_76, if_neg c_86, if_pos c_87]) d_M_into_127
                    · skip
                      refine lv_iload_n hx hb d_M_into_86 rfl (lv_at hl 1 rfl) ?_
                      refine lv_bipush (v := 15) hx hb d_M_into_87 (by decide) ?_
                      refine lv_icmp_eq (tgt := 98) hx hb d_M_into_89 (by decide) (fun c_88 => ?_) (fun c_88 => ?_)
                      · skip
                        refine lv_iconst (v := 1) hx hb d_M_into_98 (by decide) ?_
                        refine lv_goto (tgt := 103) hx hb d_M_into_99 (by decide) ?_
                        exact pm_ret hx hb hr hlk (by decide) (by rw [f_M_into, if_neg c_1, if_neg c_23, if_neg c_45, if_pos c_48, if_neg c_49, if_pos c_71, if_neg c_72, if_neg c_73, if_neg c_74, if_pos c_75, if_pos c_88]) d_M_into_103
                      · skip
                        refine lv_iload_n hx hb d_M_into_92 rfl (lv_at hl 1 rfl) ?_
                        refine lv_bipush (v := 23) hx hb d_M_into_93 (by decide) ?_
                        refine lv_icmp_ne (tgt := 102) hx hb d_M_into_95 (by decide) (fun c_89 => ?_) (fun c_89 => ?_)
                        · skip
                          refine lv_iconst (v := 0) hx hb d_M_into_102 (by decide) ?_
                          exact pm_ret hx hb hr hlk (by decide) (by rw [f_M_into, if_neg c_1, if_neg c_23, if_neg c_45, if_pos c_48, if_neg c_49, if_pos c_71, if_neg c_72, if_neg c_73, if_neg c_74, if_pos c_75, if_neg c_88, if_neg c_89]) d_M_into_103
                        · skip
                          refine lv_iconst (v := 1) hx hb d_M_into_98 (by decide) ?_
                          refine lv_goto (tgt := 103) hx hb d_M_into_99 (by decide) ?_
                          exact pm_ret hx hb hr hlk (by decide) (by rw [f_M_into, if_neg c_1, if_neg c_23, if_neg c_45, if_pos c_48, if_neg c_49, if_pos c_71, if_neg c_72, if_neg c_73, if_neg c_74, if_pos c_75, if_neg c_88, if_pos c_89]) d_M_into_103
                  · skip
                    refine lv_iload_n hx hb d_M_into_68 rfl (lv_at hl 1 rfl) ?_
                    refine lv_bipush (v := 24) hx hb d_M_into_69 (by decide) ?_
                    refine lv_icmp_ne (tgt := 78) hx hb d_M_into_71 (by decide) (fun c_90 => ?_) (fun c_90 => ?_)
                    · skip
                      refine lv_iconst (v := 0) hx hb d_M_into_78 (by decide) ?_
                      exact pm_ret hx hb hr hlk (by decide) (by rw [f_M_into, if_neg c_1, if_neg c_23, if_neg c_45, if_pos c_48, if_neg c_49, if_pos c_71, if_neg c_72, if_neg c_73, if_pos c_74, if_neg c_90]) d_M_into_79
                    · skip
                      refine lv_iconst (v := 1) hx hb d_M_into_74 (by decide) ?_
                      refine lv_goto (tgt := 79) hx hb d_M_into_75 (by decide) ?_
                      exact pm_ret hx hb hr hlk (by decide) (by rw [f_M_into, if_neg c_1, if_neg c_23, if_neg c_45, if_pos c_48, if_neg c_49, if_pos c_71, if_neg c_72, if_neg c_73, if_pos c_74, if_pos c_90]) d_M_into_79
                · skip
                  refine lv_iload_n hx hb d_M_into_49 rfl (lv_at hl 1 rfl) ?_
                  refine pm_callE hF hN (c_M_primitive l (u + (-40))) k_M_primitive j_M_102 ⟨Nat.le_of_ble_eq_true rfl, Nat.le_of_ble_eq_true rfl⟩ rfl hl.1 (Nat.le_of_ble_eq_true rfl) d_M_into_50 ⟨Nat.le_refl _, Nat.le_refl _⟩ ?_
                  refine lv_if_ne (tgt := 60) hx hb d_M_into_53 (by decide) (fun c_92 => ?_) (fun c_92 => ?_)
                  · exact absurd c_48 c_92
                  · skip
                    refine lv_iconst (v := 1) hx hb d_M_into_56 (by decide) ?_
                    refine lv_goto (tgt := 61) hx hb d_M_into_57 (by decide) ?_
                    exact pm_ret hx hb hr hlk (by decide) (by rw [f_M_into, if_neg c_1, if_neg c_23, if_neg c_45, if_pos c_48, if_neg c_49, if_pos c_71, if_neg c_72, if_pos c_73]) d_M_into_61
              · skip
                refine lv_iconst (v := 1) hx hb d_M_into_41 (by decide) ?_
                exact pm_ret hx hb hr hlk (by decide) (by rw [f_M_into, if_neg c_1, if_neg c_23, if_neg c_45, if_pos c_48, if_neg c_49, if_pos c_71, if_pos c_72]) d_M_into_42
            · skip
              refine lv_iload_n hx hb d_M_into_16 rfl (lv_at hl 1 rfl) ?_
              refine lv_iload_n hx hb d_M_into_17 rfl (lv_at hl 0 rfl) ?_
              refine lv_icmp_eq (tgt := 36) hx hb d_M_into_18 (by decide) (fun c_93 => ?_) (fun c_93 => ?_)
              · skip
                refine lv_iload_n hx hb d_M_into_36 rfl (lv_at hl 1 rfl) ?_
                refine lv_iload_n hx hb d_M_into_37 rfl (lv_at hl 0 rfl) ?_
                refine lv_icmp_ne (tgt := 43) hx hb d_M_into_38 (by decide) (fun c_94 => ?_) (fun c_94 => ?_)
                · exact absurd c_93 c_94
                · skip
                  refine lv_iconst (v := 1) hx hb d_M_into_41 (by decide) ?_
                  exact pm_ret hx hb hr hlk (by decide) (by rw [f_M_into, if_neg c_1, if_neg c_23, if_neg c_45, if_pos c_48, if_neg c_49, if_neg c_71, if_pos c_93]) d_M_into_42
              · skip
                refine lv_iinc (v := ((u + (-40)) + (-40))) (lv' := [(2, .int ((u + (-40)) + (-40))), (3, .int (t + (-40))), (0, .int u), (1, .int t)]) hx hb d_M_into_21 hl (k := 1) rfl (by first | rfl | decide) (by decide) rfl (fun ls hl => ?_)
                refine lv_iinc (v := ((t + (-40)) + (-40))) (lv' := [(3, .int ((t + (-40)) + (-40))), (2, .int ((u + (-40)) + (-40))), (0, .int u), (1, .int t)]) hx hb d_M_into_24 hl (k := 1) rfl (by first | rfl | decide) (by decide) rfl (fun ls hl => ?_)
                refine lv_iload_n hx hb d_M_into_27 rfl (lv_at hl 1 rfl) ?_
                refine pm_callE hF hN (c_M_primitive l ((u + (-40)) + (-40))) k_M_primitive j_M_102 ⟨Nat.le_of_ble_eq_true rfl, Nat.le_of_ble_eq_true rfl⟩ rfl hl.1 (Nat.le_of_ble_eq_true rfl) d_M_into_28 ⟨Nat.le_refl _, Nat.le_refl _⟩ ?_
                refine lv_if_eq (tgt := 4) hx hb d_M_into_31 (by decide) (fun c_96 => ?_) (fun c_96 => ?_)
                · skip
                  refine lv_iload_n hx hb d_M_into_4 rfl (lv_at hl 1 rfl) ?_
                  refine lv_bipush (v := 40) hx hb d_M_into_5 (by decide) ?_
                  refine lv_icmp_lt (tgt := 36) hx hb d_M_into_7 (by decide) (fun c_97 => ?_) (fun c_97 => ?_)
                  · skip
                    refine lv_iload_n hx hb d_M_into_36 rfl (lv_at hl 1 rfl) ?_
                    refine lv_iload_n hx hb d_M_into_37 rfl (lv_at hl 0 rfl) ?_
                    refine lv_icmp_ne (tgt := 43) hx hb d_M_into_38 (by decide) (fun c_98 => ?_) (fun c_98 => ?_)
                    · skip
                      refine lv_iload_n hx hb d_M_into_43 rfl (lv_at hl 0 rfl) ?_
                      refine lv_bipush (v := 9) hx hb d_M_into_44 (by decide) ?_
                      refine lv_icmp_ne (tgt := 62) hx hb d_M_into_46 (by decide) (fun c_99 => ?_) (fun c_99 => ?_)
                      · skip
                        refine lv_iload_n hx hb d_M_into_62 rfl (lv_at hl 0 rfl) ?_
                        refine lv_bipush (v := 10) hx hb d_M_into_63 (by decide) ?_
                        refine lv_icmp_ne (tgt := 80) hx hb d_M_into_65 (by decide) (fun c_100 => ?_) (fun c_100 => ?_)
                        · skip
                          refine lv_iload_n hx hb d_M_into_80 rfl (lv_at hl 0 rfl) ?_
                          refine lv_bipush (v := 12) hx hb d_M_into_81 (by decide) ?_
                          refine lv_icmp_ne (tgt := 104) hx hb d_M_into_83 (by decide) (fun c_101 => ?_) (fun c_101 => ?_)
                          · skip
                            refine lv_iload_n hx hb d_M_into_104 rfl (lv_at hl 0 rfl) ?_
                            refine lv_bipush (v := 13) hx hb d_M_into_105 (by decide) ?_
                            refine lv_icmp_ne (tgt := 128) hx hb d_M_into_107 (by decide) (fun c_102 => ?_) (fun c_102 => ?_)
                            · skip
                              refine lv_iload_n hx hb d_M_into_128 rfl (lv_at hl 0 rfl) ?_
                              refine lv_bipush (v := 16) hx hb d_M_into_129 (by decide) ?_
                              refine lv_icmp_ne (tgt := 146) hx hb d_M_into_131 (by decide) (fun c_103 => ?_) (fun c_103 => ?_)
                              · skip
                                refine lv_iload_n hx hb d_M_into_146 rfl (lv_at hl 0 rfl) ?_
                                refine lv_bipush (v := 21) hx hb d_M_into_147 (by decide) ?_
                                refine lv_icmp_ne (tgt := 164) hx hb d_M_into_149 (by decide) (fun c_104 => ?_) (fun c_104 => ?_)
                                · skip
                                  refine lv_iload_n hx hb d_M_into_164 rfl (lv_at hl 0 rfl) ?_
                                  refine lv_bipush (v := 22) hx hb d_M_into_165 (by decide) ?_
                                  refine lv_icmp_ne (tgt := 180) hx hb d_M_into_167 (by decide) (fun c_105 => ?_) (fun c_105 => ?_)
                                  · skip
                                    refine lv_iconst (v := 0) hx hb d_M_into_180 (by decide) ?_
                                    exact pm_ret hx hb hr hlk (by decide) (by rw [f_M_into, if_neg c_1, if_neg c_23, if_neg c_45, if_pos c_48, if_neg c_49, if_neg c_71, if_neg c_93, if_pos c_96, if_neg c_98, if_neg c_99, if_neg c_100, if_neg c_101, if_neg c_102, if_neg c_103, if_neg c_104, if_neg c_105]) d_M_into_181
                                  · skip
                                    refine lv_iload_n hx hb d_M_into_170 rfl (lv_at hl 1 rfl) ?_
                                    refine lv_bipush (v := 23) hx hb d_M_into_171 (by decide) ?_
                                    refine lv_icmp_ne (tgt := 180) hx hb d_M_into_173 (by decide) (fun c_106 => ?_) (fun c_106 => ?_)
                                    · skip
                                      refine lv_iconst (v := 0) hx hb d_M_into_180 (by decide) ?_
                                      exact pm_ret hx hb hr hlk (by decide) (by rw [f_M_into, if_neg c_1, if_neg c_23, if_neg c_45, if_pos c_48, if_neg c_49, if_neg c_71, if_neg c_93, if_pos c_96, if_neg c_98, if_neg c_99, if_neg c_100, if_neg c_101, if_neg c_102, if_neg c_103, if_neg c_104, if_pos c_105, if_neg c_106]) d_M_into_181
                                    · skip
                                      refine lv_iconst (v := 1) hx hb d_M_into_176 (by decide) ?_
                                      refine lv_goto (tgt := 181) hx hb d_M_into_177 (by decide) ?_
                                      exact pm_ret hx hb hr hlk (by decide) (by rw [f_M_into, if_neg c_1, if_neg c_23, if_neg c_45, if_pos c_48, if_neg c_49, if_neg c_71, if_neg c_93, if_pos c_96, if_neg c_98, if_neg c_99, if_neg c_100, if_neg c_101, if_neg c_102, if_neg c_103, if_neg c_104, if_pos c_105, if_pos c_106]) d_M_into_181
                                · skip
                                  refine lv_iload_n hx hb d_M_into_152 rfl (lv_at hl 1 rfl) ?_
                                  refine lv_bipush (v := 22) hx hb d_M_into_153 (by decide) ?_
                                  refine lv_icmp_eq (tgt := 176) hx hb d_M_into_155 (by decide) (fun c_107 => ?_) (fun c_107 => ?_)
                                  · skip
                                    refine lv_iconst (v := 1) hx hb d_M_into_176 (by decide) ?_
                                    refine lv_goto (tgt := 181) hx hb d_M_into_177 (by decide) ?_
                                    exact pm_ret hx hb hr hlk (by decide) (by rw [f_M_into, if_neg c_1, if_neg c_23, if_neg c_45, if_pos c_48, if_neg c_49, if_neg c_71, if_neg c_93, if_pos c_96, if_neg c_98, if_neg c_99, if_neg c_100, if_neg c_101, if_neg c_102, if_neg c_103, if_pos c_104, if_pos c_107]) d_M_into_181
                                  · skip
                                    refine lv_iload_n hx hb d_M_into_158 rfl (lv_at hl 1 rfl) ?_
                                    refine lv_bipush (v := 23) hx hb d_M_into_159 (by decide) ?_
                                    refine lv_icmp_eq (tgt := 176) hx hb d_M_into_161 (by decide) (fun c_108 => ?_) (fun c_108 => ?_)
                                    · skip
                                      refine lv_iconst (v := 1) hx hb d_M_into_176 (by decide) ?_
                                      refine lv_goto (tgt := 181) hx hb d_M_into_177 (by decide) ?_
                                      exact pm_ret hx hb hr hlk (by decide) (by rw [f_M_into, if_neg c_1, if_neg c_23, if_neg c_45, if_pos c_48, if_neg c_49, if_neg c_71, if_neg c_93, if_pos c_96, if_neg c_98, if_neg c_99, if_neg c_100, if_neg c_101, if_neg c_102, if_neg c_103, if_pos c_104, if_neg c_107, if_pos c_108]) d_M_into_181
                                    · skip
                                      refine lv_iload_n hx hb d_M_into_164 rfl (lv_at hl 0 rfl) ?_
                                      refine lv_bipush (v := 22) hx hb d_M_into_165 (by decide) ?_
                                      refine lv_icmp_ne (tgt := 180) hx hb d_M_into_167 (by decide) (fun c_109 => ?_) (fun c_109 => ?_)
                                      · skip
                                        refine lv_iconst (v := 0) hx hb d_M_into_180 (by decide) ?_
                                        exact pm_ret hx hb hr hlk (by decide) (by rw [f_M_into, if_neg c_1, if_neg c_23, if_neg c_45, if_pos c_48, if_neg c_49, if_neg c_71, if_neg c_93, if_pos c_96, if_neg c_98, if_neg c_99, if_neg c_100, if_neg c_101, if_neg c_102, if_neg c_103, if_pos c_104, if_neg c_107, if_neg c_108, if_neg c_109]) d_M_into_181
                                      · skip
                                        refine lv_iload_n hx hb d_M_into_170 rfl (lv_at hl 1 rfl) ?_
                                        refine lv_bipush (v := 23) hx hb d_M_into_171 (by decide) ?_
                                        refine lv_icmp_ne (tgt := 180) hx hb d_M_into_173 (by decide) (fun c_110 => ?_) (fun c_110 => ?_)
                                        · skip
                                          refine lv_iconst (v := 0) hx hb d_M_into_180 (by decide) ?_
                                          exact pm_ret hx hb hr hlk (by decide) (by rw [f_M_into, if_neg c_1, if_neg c_23, if_neg c_45, if_pos c_48, if_neg c_49, if_neg c_71, if_neg c_93, if_pos c_96, if_neg c_98, if_neg c_99, if_neg c_100, if_neg c_101, if_neg c_102, if_neg c_103, if_pos c_104, if_neg c_107, if_neg c_108, if_pos c_109]) d_M_into_181
                                        · exact absurd c_110 c_108
                              · skip
                                refine lv_iload_n hx hb d_M_into_134 rfl (lv_at hl 1 rfl) ?_
                                refine lv_bipush (v := 17) hx hb d_M_into_135 (by decide) ?_
                                refine lv_icmp_ne (tgt := 144) hx hb d_M_into_137 (by decide) (fun c_111 => ?_) (fun c_111 => ?_)
                                · skip
                                  refine lv_iconst (v := 0) hx hb d_M_into_144 (by decide) ?_
                                  exact pm_ret hx hb hr hlk (by decide) (by rw [f_M_into, if_neg c_1, if_neg c_23, if_neg c_45, if_pos c_48, if_neg c_49, if_neg c_71, if_neg c_93, if_pos c_96, if_neg c_98, if_neg c_99, if_neg c_100, if_neg c_101, if_neg c_102, if_pos c_103, if_neg c_111]) d_M_into_145
                                · skip
                                  refine lv_iconst (v := 1) hx hb d_M_into_140 (by decide) ?_
                                  refine lv_goto (tgt := 145) hx hb d_M_into_141 (by decide) ?_
                                  exact pm_ret hx hb hr hlk (by decide) (by rw [f_M_into, if_neg c_1, if_neg c_23, if_neg c_45, if_pos c_48, if_neg c_49, if_neg c_71, if_neg c_93, if_pos c_96, if_neg c_98, if_neg c_99, if_neg c_100, if_neg c_101, if_neg c_102, if_pos c_103, if_pos c_111]) d_M_into_145
                            · skip
                              refine lv_iload_n hx hb d_M_into_110 rfl (lv_at hl 1 rfl) ?_
                              refine lv_bipush (v := 14) hx hb d_M_into_111 (by decide) ?_
                              refine lv_icmp_eq (tgt := 122) hx hb d_M_into_113 (by decide) (fun c_112 => ?_) (fun c_112 => ?_)
                              · skip
                                refine lv_iconst (v := 1) hx hb d_M_into_122 (by decide) ?_
                                refine lv_goto (tgt := 127) hx hb d_M_into_123 (by decide) ?_
                                exact pm_ret hx hb hr hlk (by decide) (by rw [f_M_into, if_neg c_1, if_neg c_23, if_neg c_45, if_pos c_48, if_neg c_49, if_neg c_71, if_neg c_93, if_pos c_96, if_neg c_98, if_neg c_99, if_neg c_100, if_neg c_101, if_pos c_102, if_pos c_112]) d_M_into_127
                              · skip
                                refine lv_iload_n hx hb d_M_into_116 rfl (lv_at hl 1 rfl) ?_
                                refine lv_bipush (v := 15) hx hb d_M_into_117 (by decide) ?_
                                refine lv_icmp_ne (tgt := 126) hx hb d_M_into_119 (by decide) (fun c_113 => ?_) (fun c_113 => ?_)
                                · skip
                                  refine lv_iconst (v := 0) hx hb d_M_into_126 (by decide) ?_
                                  exact pm_ret hx hb hr hlk (by decide) (by rw [f_M_into, if_neg c_1, if_neg c_23, if_neg c_45, if_pos c_48, if_neg c_49, if_neg c_71, if_neg c_93, if_pos c_96, if_neg c_98, if_neg c_99, if_neg c_100, if_neg c_101, if_pos c_102, if_neg c_112, if_neg c_113]) d_M_into_127
                                · skip
                                  refine lv_iconst (v := 1) hx hb d_M_into_122 (by decide) ?_
                                  refine lv_goto (tgt := 127) hx hb d_M_into_123 (by decide) ?_
                                  exact pm_ret hx hb hr hlk (by decide) (by rw [f_M_into, if_neg c_1, if_neg c_23, if_neg c_45, if_pos c_48, if_neg c_49, if_neg c_71, if_neg c_93, if_pos c_96, if_neg c_98, if_neg c_99, if_neg c_100, if_neg c_101, if_pos c_102, if_neg c_112, if_pos c_113]) d_M_into_127
                          · skip
                            refine lv_iload_n hx hb d_M_into_86 rfl (lv_at hl 1 rfl) ?_
                            refine lv_bipush (v := 15) hx hb d_M_into_87 (by decide) ?_
                            refine lv_icmp_eq (tgt := 98) hx hb d_M_into_89 (by decide) (fun c_114 => ?_) (fun c_114 => ?_)
                            · skip
                              refine lv_iconst (v := 1) hx hb d_M_into_98 (by decide) ?_
                              refine lv_goto (tgt := 103) hx hb d_M_into_99 (by decide) ?_
                              exact pm_ret hx hb hr hlk (by decide) (by rw [f_M_into, if_neg c_1, if_neg c_23, if_neg c_45, if_pos c_48, if_neg c_49, if_neg c_71, if_neg c_93, if_pos c_96, if_neg c_98, if_neg c_99, if_neg c_100, if_pos c_101, if_pos c_114]) d_M_into_103
                            · skip
                              refine lv_iload_n hx hb d_M_into_92 rfl (lv_at hl 1 rfl) ?_
                              refine lv_bipush (v := 23) hx hb d_M_into_93 (by decide) ?_
                              refine lv_icmp_ne (tgt := 102) hx hb d_M_into_95 (by decide) (fun c_115 => ?_) (fun c_115 => ?_)
                              · skip
                                refine lv_iconst (v := 0) hx hb d_M_into_102 (by decide) ?_
                                exact pm_ret hx hb hr hlk (by decide) (by rw [f_M_into, if_neg c_1, if_neg c_23, if_neg c_45, if_pos c_48, if_neg c_49, if_neg c_71, if_neg c_93, if_pos c_96, if_neg c_98, if_neg c_99, if_neg c_100, if_pos c_101, if_neg c_114, if_neg c_115]) d_M_into_103
                              · skip
                                refine lv_iconst (v := 1) hx hb d_M_into_98 (by decide) ?_
                                refine lv_goto (tgt := 103) hx hb d_M_into_99 (by decide) ?_
                                exact pm_ret hx hb hr hlk (by decide) (by rw [f_M_into, if_neg c_1, if_neg c_23, if_neg c_45, if_pos c_48, if_neg c_49, if_neg c_71, if_neg c_93, if_pos c_96, if_neg c_98, if_neg c_99, if_neg c_100, if_pos c_101, if_neg c_114, if_pos c_115]) d_M_into_103
                        · skip
                          refine lv_iload_n hx hb d_M_into_68 rfl (lv_at hl 1 rfl) ?_
                          refine lv_bipush (v := 24) hx hb d_M_into_69 (by decide) ?_
                          refine lv_icmp_ne (tgt := 78) hx hb d_M_into_71 (by decide) (fun c_116 => ?_) (fun c_116 => ?_)
                          · skip
                            refine lv_iconst (v := 0) hx hb d_M_into_78 (by decide) ?_
                            exact pm_ret hx hb hr hlk (by decide) (by rw [f_M_into, if_neg c_1, if_neg c_23, if_neg c_45, if_pos c_48, if_neg c_49, if_neg c_71, if_neg c_93, if_pos c_96, if_neg c_98, if_neg c_99, if_pos c_100, if_neg c_116]) d_M_into_79
                          · skip
                            refine lv_iconst (v := 1) hx hb d_M_into_74 (by decide) ?_
                            refine lv_goto (tgt := 79) hx hb d_M_into_75 (by decide) ?_
                            exact pm_ret hx hb hr hlk (by decide) (by rw [f_M_into, if_neg c_1, if_neg c_23, if_neg c_45, if_pos c_48, if_neg c_49, if_neg c_71, if_neg c_93, if_pos c_96, if_neg c_98, if_neg c_99, if_pos c_100, if_pos c_116]) d_M_into_79
                      · skip
                        refine lv_iload_n hx hb d_M_into_49 rfl (lv_at hl 1 rfl) ?_
                        refine pm_callE hF hN (c_M_primitive l ((u + (-40)) + (-40))) k_M_primitive j_M_102 ⟨Nat.le_of_ble_eq_true rfl, Nat.le_of_ble_eq_true rfl⟩ rfl hl.1 (Nat.le_of_ble_eq_true rfl) d_M_into_50 ⟨Nat.le_refl _, Nat.le_refl _⟩ ?_
                        refine lv_if_ne (tgt := 60) hx hb d_M_into_53 (by decide) (fun c_118 => ?_) (fun c_118 => ?_)
                        · exact absurd c_96 c_118
                        · skip
                          refine lv_iconst (v := 1) hx hb d_M_into_56 (by decide) ?_
                          refine lv_goto (tgt := 61) hx hb d_M_into_57 (by decide) ?_
                          exact pm_ret hx hb hr hlk (by decide) (by rw [f_M_into, if_neg c_1, if_neg c_23, if_neg c_45, if_pos c_48, if_neg c_49, if_neg c_71, if_neg c_93, if_pos c_96, if_neg c_98, if_pos c_99]) d_M_into_61
                    · skip
                      refine lv_iconst (v := 1) hx hb d_M_into_41 (by decide) ?_
                      exact pm_ret hx hb hr hlk (by decide) (by rw [f_M_into, if_neg c_1, if_neg c_23, if_neg c_45, if_pos c_48, if_neg c_49, if_neg c_71, if_neg c_93, if_pos c_96, if_pos c_98]) d_M_into_42
                  · exact absurd (m_lt3 hu c_1 c_49) c_97
                · skip
                  refine lv_iconst (v := 0) hx hb d_M_into_34 (by decide) ?_
                  exact pm_ret hx hb hr hlk (by decide) (by rw [f_M_into, if_neg c_1, if_neg c_23, if_neg c_45, if_pos c_48, if_neg c_49, if_neg c_71, if_neg c_93, if_neg c_96]) d_M_into_35
        · skip
          refine lv_iconst (v := 0) hx hb d_M_into_34 (by decide) ?_
          exact pm_ret hx hb hr hlk (by decide) (by rw [f_M_into, if_neg c_1, if_neg c_23, if_neg c_45, if_neg c_48]) d_M_into_35
def f_M_goesInto (u : Int32) (t : Int32) : Int32 := (if (f_M_isType u) = 0 then 0 else (if (f_M_isType t) = 0 then 0 else (if (f_M_into u t) = 0 then 0 else 1)))
set_option maxRecDepth 100000 in
theorem z_M_goesInto (u : Int32) (t : Int32) : f_M_goesInto u t = 0 ∨ f_M_goesInto u t = 1 := by
  unfold f_M_goesInto
  repeat' first | with_reducible refine z_ite ?_ ?_ | with_reducible exact z_M_into _ _ | with_reducible exact z_M_isType _ | with_reducible exact Or.inl rfl | with_reducible exact Or.inr rfl
set_option maxRecDepth 100000 in
theorem k_M_goesInto : ck y_M_goesInto b_M_goesInto 3 (some .boolean) 2 (.instanceMethod y_M_goesInto) := ⟨tk_of (List.mem_of_getElem? (i := 840) rfl) rfl, tk_of (List.mem_of_getElem? (i := 838) (by decide +kernel)) rfl, tk_of (List.mem_of_getElem? (i := 43) (by decide +kernel)) rfl, by decide +kernel⟩
theorem j_M_186 : Cond.methodLink R_M 186 y_M_into ∈ tk := tk_of (List.mem_of_getElem? (i := 841) (by decide +kernel)) rfl
set_option maxHeartbeats 4000000 in
set_option maxRecDepth 100000 in
theorem c_M_goesInto (l : Launch) (h0 : Nat) (u : Int32) (t : Int32) : pmI l y_M_goesInto b_M_goesInto 3 .boolean 3 65 [.ref h0, .int u, .int t] (fun r => r = f_M_goesInto u t) := by
  refine pm_of (by decide) (Nat.le_of_ble_eq_true rfl) ?_
  intro p e s m below meth c ls hx hb hF hr hlk hN hl
  have hl : lv_has ls 3 [(0, .ref h0), (1, .int u), (2, .int t)] := hl
  refine lv_iload_n hx hb d_M_goesInto_0 rfl (lv_at hl 1 rfl) ?_
  refine pm_callE hF hN (c_M_isType l u) k_M_isType j_M_167 ⟨Nat.le_of_ble_eq_true rfl, Nat.le_of_ble_eq_true rfl⟩ rfl hl.1 (Nat.le_of_ble_eq_true rfl) d_M_goesInto_1 ⟨Nat.le_refl _, Nat.le_refl _⟩ ?_
  refine lv_if_eq (tgt := 26) hx hb d_M_goesInto_4 (by decide) (fun c_2 => ?_) (fun c_2 => ?_)
  · skip
    refine lv_iconst (v := 0) hx hb d_M_goesInto_26 (by decide) ?_
    exact pm_ret hx hb hr hlk (by decide) (by rw [f_M_goesInto, if_pos c_2]) d_M_goesInto_27
  · skip
    refine lv_iload_n hx hb d_M_goesInto_7 rfl (lv_at hl 2 rfl) ?_
    refine pm_callE hF hN (c_M_isType l t) k_M_isType j_M_167 ⟨Nat.le_of_ble_eq_true rfl, Nat.le_of_ble_eq_true rfl⟩ rfl hl.1 (Nat.le_of_ble_eq_true rfl) d_M_goesInto_8 ⟨Nat.le_refl _, Nat.le_refl _⟩ ?_
    refine lv_if_eq (tgt := 26) hx hb d_M_goesInto_11 (by decide) (fun c_4 => ?_) (fun c_4 => ?_)
    · skip
      refine lv_iconst (v := 0) hx hb d_M_goesInto_26 (by decide) ?_
      exact pm_ret hx hb hr hlk (by decide) (by rw [f_M_goesInto, if_neg c_2, if_pos c_4]) d_M_goesInto_27
    · skip
      refine lv_iload_n hx hb d_M_goesInto_14 rfl (lv_at hl 1 rfl) ?_
      refine lv_iload_n hx hb d_M_goesInto_15 rfl (lv_at hl 2 rfl) ?_
      refine pm_callE hF hN (c_M_into l u t (m_isT c_2)) k_M_into j_M_186 ⟨Nat.le_of_ble_eq_true rfl, Nat.le_of_ble_eq_true rfl⟩ rfl hl.1 (Nat.le_of_ble_eq_true rfl) d_M_goesInto_16 ⟨Nat.le_refl _, Nat.le_refl _⟩ ?_
      refine lv_if_eq (tgt := 26) hx hb d_M_goesInto_19 (by decide) (fun c_6 => ?_) (fun c_6 => ?_)
      · skip
        refine lv_iconst (v := 0) hx hb d_M_goesInto_26 (by decide) ?_
        exact pm_ret hx hb hr hlk (by decide) (by rw [f_M_goesInto, if_neg c_2, if_neg c_4, if_pos c_6]) d_M_goesInto_27
      · skip
        refine lv_iconst (v := 1) hx hb d_M_goesInto_22 (by decide) ?_
        refine lv_goto (tgt := 27) hx hb d_M_goesInto_23 (by decide) ?_
        exact pm_ret hx hb hr hlk (by decide) (by rw [f_M_goesInto, if_neg c_2, if_neg c_4, if_neg c_6]) d_M_goesInto_27
def f_M_asSubclass (u : Int32) (t : Int32) : Int32 := (if (f_M_isType u) = 0 then (-1) else (if (f_M_isType t) = 0 then (-1) else (if (f_M_into u t) = 0 then (-5) else u)))
set_option maxRecDepth 100000 in
theorem k_M_asSubclass : ck y_M_asSubclass b_M_asSubclass 3 (some .int) 2 (.instanceMethod y_M_asSubclass) := ⟨tk_of (List.mem_of_getElem? (i := 847) rfl) rfl, tk_of (List.mem_of_getElem? (i := 845) (by decide +kernel)) rfl, tk_of (List.mem_of_getElem? (i := 43) (by decide +kernel)) rfl, by decide +kernel⟩
set_option maxHeartbeats 4000000 in
set_option maxRecDepth 100000 in
theorem c_M_asSubclass (l : Launch) (h0 : Nat) (u : Int32) (t : Int32) : pmI l y_M_asSubclass b_M_asSubclass 3 .int 3 65 [.ref h0, .int u, .int t] (fun r => r = f_M_asSubclass u t) := by
  refine pm_of (by decide) (Nat.le_of_ble_eq_true rfl) ?_
  intro p e s m below meth c ls hx hb hF hr hlk hN hl
  have hl : lv_has ls 3 [(0, .ref h0), (1, .int u), (2, .int t)] := hl
  refine lv_iload_n hx hb d_M_asSubclass_0 rfl (lv_at hl 1 rfl) ?_
  refine pm_callE hF hN (c_M_isType l u) k_M_isType j_M_167 ⟨Nat.le_of_ble_eq_true rfl, Nat.le_of_ble_eq_true rfl⟩ rfl hl.1 (Nat.le_of_ble_eq_true rfl) d_M_asSubclass_1 ⟨Nat.le_refl _, Nat.le_refl _⟩ ?_
  refine lv_if_eq (tgt := 14) hx hb d_M_asSubclass_4 (by decide) (fun c_2 => ?_) (fun c_2 => ?_)
  · skip
    refine lv_iconst (v := (-1)) hx hb d_M_asSubclass_14 (by decide) ?_
    exact pm_ret hx hb hr hlk (nar_i _) (by rw [f_M_asSubclass, if_pos c_2]) d_M_asSubclass_15
  · skip
    refine lv_iload_n hx hb d_M_asSubclass_7 rfl (lv_at hl 2 rfl) ?_
    refine pm_callE hF hN (c_M_isType l t) k_M_isType j_M_167 ⟨Nat.le_of_ble_eq_true rfl, Nat.le_of_ble_eq_true rfl⟩ rfl hl.1 (Nat.le_of_ble_eq_true rfl) d_M_asSubclass_8 ⟨Nat.le_refl _, Nat.le_refl _⟩ ?_
    refine lv_if_ne (tgt := 16) hx hb d_M_asSubclass_11 (by decide) (fun c_4 => ?_) (fun c_4 => ?_)
    · skip
      refine lv_iload_n hx hb d_M_asSubclass_16 rfl (lv_at hl 1 rfl) ?_
      refine lv_iload_n hx hb d_M_asSubclass_17 rfl (lv_at hl 2 rfl) ?_
      refine pm_callE hF hN (c_M_into l u t (m_isT c_2)) k_M_into j_M_186 ⟨Nat.le_of_ble_eq_true rfl, Nat.le_of_ble_eq_true rfl⟩ rfl hl.1 (Nat.le_of_ble_eq_true rfl) d_M_asSubclass_18 ⟨Nat.le_refl _, Nat.le_refl _⟩ ?_
      refine lv_if_eq (tgt := 28) hx hb d_M_asSubclass_21 (by decide) (fun c_6 => ?_) (fun c_6 => ?_)
      · skip
        refine lv_bipush (v := (-5)) hx hb d_M_asSubclass_28 (by decide) ?_
        exact pm_ret hx hb hr hlk (nar_i _) (by rw [f_M_asSubclass, if_neg c_2, if_neg c_4, if_pos c_6]) d_M_asSubclass_30
      · skip
        refine lv_iload_n hx hb d_M_asSubclass_24 rfl (lv_at hl 1 rfl) ?_
        refine lv_goto (tgt := 30) hx hb d_M_asSubclass_25 (by decide) ?_
        exact pm_ret hx hb hr hlk (nar_i _) (by rw [f_M_asSubclass, if_neg c_2, if_neg c_4, if_neg c_6]) d_M_asSubclass_30
    · skip
      refine lv_iconst (v := (-1)) hx hb d_M_asSubclass_14 (by decide) ?_
      exact pm_ret hx hb hr hlk (nar_i _) (by rw [f_M_asSubclass, if_neg c_2, if_pos c_4]) d_M_asSubclass_15
end
section
theorem b_hi {t : Int32} (h : ¬ t < 120) : f_B_isType t = 0 := by
  have h0 : ¬ t < 0 := fun q => h (Int32.lt_trans q (by decide))
  obtain ⟨j, hj, rfl⟩ := nI_of h0
  have h1 : 120 ≤ j := by
    rcases Nat.lt_or_ge j 120 with q | q
    · exact absurd (nI_lt (a := j) (b := 120) q (by decide)) h
    · exact q
  have h2 : 2 < f_B_levels (nI j) := by
    rw [f_B_levels, show (40 : Int32) = nI 40 from rfl, pk_div hj (by decide) (by decide)]
    exact nI_lt (a := 2) (by omega) (by omega)
  rw [f_B_isType, if_neg h0, if_pos h2]
theorem b_lo {t : Int32} (h : t < 0) : f_B_isType t = 0 := by rw [f_B_isType, if_pos h]
theorem m_hi {t : Int32} (h : ¬ t < 120) : f_M_isType t = 0 := Classical.byContradiction fun q => h (m_isT q)
theorem m_lo {t : Int32} (h : t < 0) : f_M_isType t = 0 := by
  have a1 : ∀ a b : Int32, 0 ≤ a → f_M_in t a b = 0 := by
    intro a b hb
    rw [f_M_in, if_pos (Int32.lt_of_lt_of_le h hb)]
  rw [f_M_isType, if_pos (a1 0 24 (by decide)), if_pos (a1 40 64 (by decide)), if_pos (a1 80 104 (by decide))]
/-- a number is below 0, or not below 120, or one of 120 -/
theorem t_cases (t : Int32) : t < 0 ∨ ¬ t < 120 ∨ ∃ j : Nat, j < 120 ∧ t = nI j := by
  by_cases h0 : t < 0
  · exact Or.inl h0
  · by_cases h1 : t < 120
    · obtain ⟨j, hj, rfl⟩ := nI_of h0
      exact Or.inr (Or.inr ⟨j, (nI_ltI hj (b := 120) (by decide)).mp h1, rfl⟩)
    · exact Or.inr (Or.inl h1)
theorem e_isTd : ∀ j : Nat, j < 120 → f_B_isType (nI j) = f_M_isType (nI j) := by decide +kernel
theorem e_isType (t : Int32) : f_B_isType t = f_M_isType t := by
  rcases t_cases t with h | h | ⟨j, hj, rfl⟩
  · rw [b_lo h, m_lo h]
  · rw [b_hi h, m_hi h]
  · exact e_isTd j hj
/-- a type is one of 120 numbers -/
theorem isT_nI {t : Int32} (h : ¬ f_M_isType t = 0) : ∃ j : Nat, j < 120 ∧ t = nI j := by
  rcases t_cases t with q | q | q
  · exact absurd (m_lo q) h
  · exact absurd (m_hi q) h
  · exact q
theorem o_P_flag {k : Int32} (h : k < 0 ∨ nI 16 ≤ k) (t : Int32) : f_P_flag t k = f_P_flag t 16 := by
  have n0 : ¬ k = 0 := by rintro rfl; exact absurd h (by decide)
  have n1 : ¬ k = 1 := by rintro rfl; exact absurd h (by decide)
  have n2 : ¬ k = 2 := by rintro rfl; exact absurd h (by decide)
  have n3 : ¬ k = 3 := by rintro rfl; exact absurd h (by decide)
  have n4 : ¬ k = 4 := by rintro rfl; exact absurd h (by decide)
  have n5 : ¬ k = 5 := by rintro rfl; exact absurd h (by decide)
  have n6 : ¬ k = 6 := by rintro rfl; exact absurd h (by decide)
  have n7 : ¬ k = 7 := by rintro rfl; exact absurd h (by decide)
  have n8 : ¬ k = 8 := by rintro rfl; exact absurd h (by decide)
  have n9 : ¬ k = 9 := by rintro rfl; exact absurd h (by decide)
  have n10 : ¬ k = 10 := by rintro rfl; exact absurd h (by decide)
  have m0 : ¬ (16 : Int32) = 0 := by decide
  have m1 : ¬ (16 : Int32) = 1 := by decide
  have m2 : ¬ (16 : Int32) = 2 := by decide
  have m3 : ¬ (16 : Int32) = 3 := by decide
  have m4 : ¬ (16 : Int32) = 4 := by decide
  have m5 : ¬ (16 : Int32) = 5 := by decide
  have m6 : ¬ (16 : Int32) = 6 := by decide
  have m7 : ¬ (16 : Int32) = 7 := by decide
  have m8 : ¬ (16 : Int32) = 8 := by decide
  have m9 : ¬ (16 : Int32) = 9 := by decide
  have m10 : ¬ (16 : Int32) = 10 := by decide
  simp only [f_P_flag, n0, m0, n1, m1, n2, m2, n3, m3, n4, m4, n5, m5, n6, m6, n7, m7, n8, m8, n9, m9, n10, m10, if_false]
theorem o_M_flag {k : Int32} (h : k < 0 ∨ nI 16 ≤ k) (t : Int32) : f_M_flag t k = f_M_flag t 16 := by
  have n0 : ¬ k = 0 := by rintro rfl; exact absurd h (by decide)
  have n1 : ¬ k = 1 := by rintro rfl; exact absurd h (by decide)
  have n2 : ¬ k = 2 := by rintro rfl; exact absurd h (by decide)
  have n3 : ¬ k = 3 := by rintro rfl; exact absurd h (by decide)
  have n4 : ¬ k = 4 := by rintro rfl; exact absurd h (by decide)
  have n5 : ¬ k = 5 := by rintro rfl; exact absurd h (by decide)
  have n6 : ¬ k = 6 := by rintro rfl; exact absurd h (by decide)
  have n7 : ¬ k = 7 := by rintro rfl; exact absurd h (by decide)
  have n8 : ¬ k = 8 := by rintro rfl; exact absurd h (by decide)
  have n9 : ¬ k = 9 := by rintro rfl; exact absurd h (by decide)
  have n10 : ¬ k = 10 := by rintro rfl; exact absurd h (by decide)
  have m0 : ¬ (16 : Int32) = 0 := by decide
  have m1 : ¬ (16 : Int32) = 1 := by decide
  have m2 : ¬ (16 : Int32) = 2 := by decide
  have m3 : ¬ (16 : Int32) = 3 := by decide
  have m4 : ¬ (16 : Int32) = 4 := by decide
  have m5 : ¬ (16 : Int32) = 5 := by decide
  have m6 : ¬ (16 : Int32) = 6 := by decide
  have m7 : ¬ (16 : Int32) = 7 := by decide
  have m8 : ¬ (16 : Int32) = 8 := by decide
  have m9 : ¬ (16 : Int32) = 9 := by decide
  have m10 : ¬ (16 : Int32) = 10 := by decide
  simp only [f_M_flag, n0, m0, n1, m1, n2, m2, n3, m3, n4, m4, n5, m5, n6, m6, n7, m7, n8, m8, n9, m9, n10, m10, if_false]
theorem e_P_flagd : ∀ j : Nat, j < 120 → ∀ i : Nat, i < 17 → f_P_flag (nI j) (nI i) = f_M_flag (nI j) (nI i) := by decide +kernel
theorem e_P_flag (t k : Int32) : f_P_flag t k = f_M_flag t k := by
  by_cases h : f_M_isType t = 0
  · have h2 := e_isType t
    rw [h] at h2
    rw [f_P_flag, f_M_flag, if_pos h2, if_pos h]
  · obtain ⟨j, hj, rfl⟩ := isT_nI h
    rcases pk_ix k (n := 16) (by decide) with q | q | ⟨i, hi, rfl⟩
    · rw [o_P_flag (Or.inl q), o_M_flag (Or.inl q)]; exact e_P_flagd j hj 16 (by decide)
    · rw [o_P_flag (Or.inr q), o_M_flag (Or.inr q)]; exact e_P_flagd j hj 16 (by decide)
    · exact e_P_flagd j hj i (by omega)
end
section
theorem o_P_related {k : Int32} (h : k < 0 ∨ nI 16 ≤ k) (t : Int32) : f_P_related t k = f_P_related t 16 := by
  have n0 : ¬ k = 0 := by rintro rfl; exact absurd h (by decide)
  have n1 : ¬ k = 1 := by rintro rfl; exact absurd h (by decide)
  have n2 : ¬ k = 2 := by rintro rfl; exact absurd h (by decide)
  have n3 : ¬ k = 3 := by rintro rfl; exact absurd h (by decide)
  have n4 : ¬ k = 4 := by rintro rfl; exact absurd h (by decide)
  have n5 : ¬ k = 5 := by rintro rfl; exact absurd h (by decide)
  have m0 : ¬ (16 : Int32) = 0 := by decide
  have m1 : ¬ (16 : Int32) = 1 := by decide
  have m2 : ¬ (16 : Int32) = 2 := by decide
  have m3 : ¬ (16 : Int32) = 3 := by decide
  have m4 : ¬ (16 : Int32) = 4 := by decide
  have m5 : ¬ (16 : Int32) = 5 := by decide
  simp only [f_P_related, n0, m0, n1, m1, n2, m2, n3, m3, n4, m4, n5, m5, if_false]
theorem in_out {k a b : Int32} (h : k < a ∨ b < k) : f_M_in k a b = 0 := by
  rw [f_M_in]
  by_cases c : k < a
  · rw [if_pos c]
  · rw [if_neg c, if_pos (h.resolve_left c)]
theorem o_M_related {k : Int32} (h : k < 0 ∨ nI 16 ≤ k) (t : Int32) : f_M_related t k = f_M_related t 16 := by
  have e1 : f_M_in k 0 5 = 0 := in_out (h.imp id (fun q => Int32.lt_of_lt_of_le (by decide) q))
  have e2 : f_M_in 16 0 5 = 0 := by decide
  rw [f_M_related, f_M_related, if_pos e1, if_pos e2]
theorem e_P_relatedd : ∀ j : Nat, j < 120 → ∀ i : Nat, i < 17 → f_P_related (nI j) (nI i) = f_M_related (nI j) (nI i) := by decide +kernel
theorem e_P_related (t k : Int32) : f_P_related t k = f_M_related t k := by
  by_cases h : f_M_isType t = 0
  · have h2 := e_isType t
    rw [h] at h2
    rw [f_P_related, f_M_related, if_pos h2, if_pos h]
  · obtain ⟨j, hj, rfl⟩ := isT_nI h
    rcases pk_ix k (n := 16) (by decide) with q | q | ⟨i, hi, rfl⟩
    · rw [o_P_related (Or.inl q), o_M_related (Or.inl q)]; exact e_P_relatedd j hj 16 (by decide)
    · rw [o_P_related (Or.inr q), o_M_related (Or.inr q)]; exact e_P_relatedd j hj 16 (by decide)
    · exact e_P_relatedd j hj i (by omega)
theorem e_ifc : ∀ j : Nat, j < 120 → f_B_interfaceCount (nI j) ≤ 2 := by decide +kernel
theorem e_P_interfaceOfd : ∀ j : Nat, j < 120 → ∀ i : Nat, i < 17 → f_P_interfaceOf (nI j) (nI i) = f_M_interfaceOf (nI j) (nI i) := by decide +kernel
theorem o_M_interfaceOf {k : Int32} (h : k < 0 ∨ nI 16 ≤ k) (t : Int32) : f_M_interfaceOf t k = f_M_interfaceOf t 16 := by
  have e1 : f_M_in k 0 1 = 0 := in_out (h.imp id (fun q => Int32.lt_of_lt_of_le (by decide) q))
  have e2 : f_M_in 16 0 1 = 0 := by decide
  have n0 : ¬ k = 0 := by rintro rfl; exact absurd h (by decide)
  have n1 : ¬ k = 1 := by rintro rfl; exact absurd h (by decide)
  have m0 : ¬ (16 : Int32) = 0 := by decide
  have m1 : ¬ (16 : Int32) = 1 := by decide
  simp only [f_M_interfaceOf, e1, e2, n0, n1, m0, m1, if_false]
theorem o_P_interfaceOf {k : Int32} (h : k < 0 ∨ nI 16 ≤ k) {j : Nat} (hj : j < 120) : f_P_interfaceOf (nI j) k = f_P_interfaceOf (nI j) 16 := by
  have e := e_ifc j hj
  have e3 : ¬ (16 : Int32) < f_B_interfaceCount (nI j) := Int32.not_lt.mpr (Int32.le_trans e (by decide))
  have e4 : f_B_interfaceAt (nI j) 16 = (-2) := by rw [f_B_interfaceAt, if_neg (by decide), if_neg e3]
  have e5 : f_B_interfaceAt (nI j) k = (-2) := by
    rw [f_B_interfaceAt]
    rcases h with q | q
    · rw [if_pos q]
    · rw [if_neg (fun z => absurd (Int32.lt_of_le_of_lt q z) (by decide)), if_neg (Int32.not_lt.mpr (Int32.le_trans e (Int32.le_trans (by decide) q)))]
  rw [f_P_interfaceOf, f_P_interfaceOf, e4, e5]
theorem e_P_interfaceOf (t k : Int32) : f_P_interfaceOf t k = f_M_interfaceOf t k := by
  by_cases h : f_M_isType t = 0
  · have h2 := e_isType t
    rw [h] at h2
    rw [f_P_interfaceOf, f_M_interfaceOf, if_pos h2, if_pos h]
  · obtain ⟨j, hj, rfl⟩ := isT_nI h
    rcases pk_ix k (n := 16) (by decide) with q | q | ⟨i, hi, rfl⟩
    · rw [o_P_interfaceOf (Or.inl q) hj, o_M_interfaceOf (Or.inl q)]; exact e_P_interfaceOfd j hj 16 (by decide)
    · rw [o_P_interfaceOf (Or.inr q) hj, o_M_interfaceOf (Or.inr q)]; exact e_P_interfaceOfd j hj 16 (by decide)
    · exact e_P_interfaceOfd j hj i (by omega)
end
section
theorem e_fitsd : ∀ j : Nat, j < 120 → f_M_isType (nI j) = 0 ∨ ∀ i : Nat, i < 120 → f_M_isType (nI i) = 0 ∨ f_B_fits (nI j) (nI i) = f_M_into (nI j) (nI i) := by decide +kernel
theorem e_fits {u t : Int32} (hu : ¬ f_M_isType u = 0) (ht : ¬ f_M_isType t = 0) : f_B_fits u t = f_M_into u t := by
  obtain ⟨j, hj, rfl⟩ := isT_nI hu
  obtain ⟨i, hi, rfl⟩ := isT_nI ht
  exact ((e_fitsd j hj).resolve_left hu i hi).resolve_left ht
theorem e_P_goesInto (u t : Int32) : f_P_goesInto u t = f_M_goesInto u t := by
  rw [f_P_goesInto, f_M_goesInto, e_isType, e_isType]
  by_cases h : f_M_isType u = 0
  · rw [if_pos h, if_pos h]
  · by_cases h2 : f_M_isType t = 0
    · rw [if_neg h, if_neg h, if_pos h2, if_pos h2]
    · rw [e_fits h h2]
theorem e_P_asSubclass (u t : Int32) : f_P_asSubclass u t = f_M_asSubclass u t := by
  rw [f_P_asSubclass, f_M_asSubclass, e_isType, e_isType]
  by_cases h : f_M_isType u = 0
  · rw [if_pos h, if_pos h]
  · by_cases h2 : f_M_isType t = 0
    · rw [if_neg h, if_neg h, if_pos h2, if_pos h2]
    · rw [e_fits h h2]
theorem e_nest : ∀ j : Nat, j < 120 → f_B_isInNest (nI j) = f_M_in (nI j) 11 24 := by decide +kernel
theorem e_P_nestmates (u t : Int32) : f_P_nestmates u t = f_M_nestmates u t := by
  rw [f_P_nestmates, f_M_nestmates, e_isType, e_isType]
  by_cases h : f_M_isType u = 0
  · rw [if_pos h, if_pos h]
  · by_cases h2 : f_M_isType t = 0
    · rw [if_neg h, if_neg h, if_pos h2, if_pos h2]
    · obtain ⟨j, hj, rfl⟩ := isT_nI h
      obtain ⟨i, hi, rfl⟩ := isT_nI h2
      rw [e_nest j hj, e_nest i hi]
end
section
def F_P : u_T := fun k => match k with
  | 0 => ("ClassProbe", "held", "[I", true)
  | 1 => ("ClassProbe", "script", "LClassProbe$Script;", true)
  | _ => ("ClassProbe", "query", "LClassProbe$Query;", true)
def t_P : Nat → FieldType := fun k => match k with
  | 0 => .array .int
  | 1 => .object "ClassProbe$Script"
  | _ => .object "ClassProbe$Query"
theorem n_P : ∀ a, a < 3 → ∀ b, b < 3 → a ≠ b → (F_P a).2.1 ≠ (F_P b).2.1 := by decide +kernel
theorem t_P_ok : ∀ k, k < 3 → parseFieldDescriptor (F_P k).2.2.1 = some (t_P k) := by decide +kernel
theorem in_P : ∀ w ∈ u_ws R_P F_P 3, w ∈ tk := by decide +kernel
def F_S : u_T := fun k => match k with
  | _ => ("ClassProbe$Script", "row", "Ljava/lang/StringBuilder;", true)
def t_S : Nat → FieldType := fun k => match k with
  | _ => .object "java/lang/StringBuilder"
theorem n_S : ∀ a, a < 1 → ∀ b, b < 1 → a ≠ b → (F_S a).2.1 ≠ (F_S b).2.1 := by decide +kernel
theorem t_S_ok : ∀ k, k < 1 → parseFieldDescriptor (F_S k).2.2.1 = some (t_S k) := by decide +kernel
theorem in_S : ∀ w ∈ u_ws R_S F_S 1, w ∈ tk := by decide +kernel
def F_Q : u_T := fun k => match k with
  | _ => ("ClassProbe$Query", "text", "Ljava/lang/StringBuilder;", true)
def t_Q : Nat → FieldType := fun k => match k with
  | _ => .object "java/lang/StringBuilder"
theorem n_Q : ∀ a, a < 1 → ∀ b, b < 1 → a ≠ b → (F_Q a).2.1 ≠ (F_Q b).2.1 := by decide +kernel
theorem t_Q_ok : ∀ k, k < 1 → parseFieldDescriptor (F_Q k).2.2.1 = some (t_Q k) := by decide +kernel
theorem in_Q : ∀ w ∈ u_ws R_Q F_Q 1, w ∈ tk := by decide +kernel
def F_SB : u_T := fun k => match k with
  | 0 => ("java/lang/AbstractStringBuilder", "value", "[B", false)
  | 1 => ("java/lang/AbstractStringBuilder", "coder", "B", false)
  | 2 => ("java/lang/AbstractStringBuilder", "maybeLatin1", "Z", false)
  | _ => ("java/lang/AbstractStringBuilder", "count", "I", false)
def t_SB : Nat → FieldType := fun k => match k with
  | 0 => .array .byte
  | 1 => .byte
  | 2 => .boolean
  | _ => .int
theorem n_SB : ∀ a, a < 4 → ∀ b, b < 4 → a ≠ b → (F_SB a).2.1 ≠ (F_SB b).2.1 := by decide +kernel
theorem t_SB_ok : ∀ k, k < 4 → parseFieldDescriptor (F_SB k).2.2.1 = some (t_SB k) := by decide +kernel
theorem in_SB : ∀ w ∈ u_ws R_SB F_SB 4, w ∈ tk := by decide +kernel
def F_M : u_T := fun k => match k with
  | 0 => ("ClassProbeModel", "made", "[I", true)
  | 1 => ("ClassProbeModel", "size", "I", false)
  | 2 => ("ClassProbeModel", "text", "[I", true)
  | 3 => ("ClassProbeModel", "length", "I", false)
  | 4 => ("ClassProbeModel", "held", "[I", true)
  | 5 => ("ClassProbeModel", "thing", "[I", true)
  | _ => ("ClassProbeModel", "things", "I", false)
def t_M : Nat → FieldType := fun k => match k with
  | 0 => .array .int
  | 1 => .int
  | 2 => .array .int
  | 3 => .int
  | 4 => .array .int
  | 5 => .array .int
  | _ => .int
theorem n_M : ∀ a, a < 7 → ∀ b, b < 7 → a ≠ b → (F_M a).2.1 ≠ (F_M b).2.1 := by decide +kernel
theorem t_M_ok : ∀ k, k < 7 → parseFieldDescriptor (F_M k).2.2.1 = some (t_M k) := by decide +kernel
theorem in_M : ∀ w ∈ u_ws R_M F_M 7, w ∈ tk := by decide +kernel
abbrev classes : List vw_C := [(R_P, F_P, 3), (R_S, F_S, 1), (R_Q, F_Q, 1), (R_SB, F_SB, 4), (R_M, F_M, 7)]
def li : List (String × Nat × String) := [("ClassProbe$Script", 94, "ZBCSIJFDV"), ("ClassProbe$Bench", 18, "boolean"), ("ClassProbe$Bench", 20, "byte"), ("ClassProbe$Bench", 22, "char"), ("ClassProbe$Bench", 24, "short"), ("ClassProbe$Bench", 26, "int"), ("ClassProbe$Bench", 28, "long"), ("ClassProbe$Bench", 30, "float"), ("ClassProbe$Bench", 32, "double"), ("ClassProbe$Bench", 34, "void"), ("ClassProbe$Bench", 36, "java.lang.Object"), ("ClassProbe$Bench", 38, "java.lang.Runnable"), ("ClassProbe$Bench", 40, "ClassProbe"), ("ClassProbe$Bench", 41, "ClassProbe$Mark"), ("ClassProbe$Bench", 43, "ClassProbe$Shape"), ("ClassProbe$Bench", 45, "ClassProbe$Circle"), ("ClassProbe$Bench", 47, "ClassProbe$Square"), ("ClassProbe$Bench", 49, "ClassProbe$Color"), ("ClassProbe$Bench", 51, "ClassProbe$Color$1"), ("ClassProbe$Bench", 53, "ClassProbe$Inner"), ("ClassProbe$Bench", 55, "ClassProbe$Inner$Deep"), ("ClassProbe$Bench", 57, "ClassProbe$Note"), ("ClassProbe$Bench", 59, "ClassProbe$Box"), ("ClassProbe$Bench", 61, "ClassProbe$Tall"), ("ClassProbe$Bench", 63, "ClassProbe$1Local"), ("ClassProbe$Bench", 65, "ClassProbe$1"), ("ClassProbe$Bench", 67, ""), ("ClassProbe$Script", 100, "[]"), ("ClassProbe$Script", 65, "java.lang"), ("ClassProbe$Script", 67, ""), ("ClassProbe$Script", 105, "interface "), ("ClassProbe$Script", 107, "class "), ("ClassProbe$Script", 109, "public"), ("ClassProbe$Script", 115, "protected"), ("ClassProbe$Script", 117, "private"), ("ClassProbe$Script", 119, "abstract"), ("ClassProbe$Script", 121, "static"), ("ClassProbe$Script", 123, "final"), ("ClassProbe$Script", 125, "interface"), ("ClassProbe$Query", 66, "ClassProbe$"), ("ClassProbe$Query", 68, "ZBCSIJFDV")]
def li_tab : List (List Nat) := [[90, 66, 67, 83, 73, 74, 70, 68, 86], [98, 111, 111, 108, 101, 97, 110], [98, 121, 116, 101], [99, 104, 97, 114], [115, 104, 111, 114, 116], [105, 110, 116], [108, 111, 110, 103], [102, 108, 111, 97, 116], [100, 111, 117, 98, 108, 101], [118, 111, 105, 100], [106, 97, 118, 97, 46, 108, 97, 110, 103, 46, 79, 98, 106, 101, 99, 116], [106, 97, 118, 97, 46, 108, 97, 110, 103, 46, 82, 117, 110, 110, 97, 98, 108, 101], [67, 108, 97, 115, 115, 80, 114, 111, 98, 101], [67, 108, 97, 115, 115, 80, 114, 111, 98, 101, 36, 77, 97, 114, 107], [67, 108, 97, 115, 115, 80, 114, 111, 98, 101, 36, 83, 104, 97, 112, 101], [67, 108, 97, 115, 115, 80, 114, 111, 98, 101, 36, 67, 105, 114, 99, 108, 101], [67, 108, 97, 115, 115, 80, 114, 111, 98, 101, 36, 83, 113, 117, 97, 114, 101], [67, 108, 97, 115, 115, 80, 114, 111, 98, 101, 36, 67, 111, 108, 111, 114], [67, 108, 97, 115, 115, 80, 114, 111, 98, 101, 36, 67, 111, 108, 111, 114, 36, 49], [67, 108, 97, 115, 115, 80, 114, 111, 98, 101, 36, 73, 110, 110, 101, 114], [67, 108, 97, 115, 115, 80, 114, 111, 98, 101, 36, 73, 110, 110, 101, 114, 36, 68, 101, 101, 112], [67, 108, 97, 115, 115, 80, 114, 111, 98, 101, 36, 78, 111, 116, 101], [67, 108, 97, 115, 115, 80, 114, 111, 98, 101, 36, 66, 111, 120], [67, 108, 97, 115, 115, 80, 114, 111, 98, 101, 36, 84, 97, 108, 108], [67, 108, 97, 115, 115, 80, 114, 111, 98, 101, 36, 49, 76, 111, 99, 97, 108], [67, 108, 97, 115, 115, 80, 114, 111, 98, 101, 36, 49], [], [91, 93], [106, 97, 118, 97, 46, 108, 97, 110, 103], [], [105, 110, 116, 101, 114, 102, 97, 99, 101, 32], [99, 108, 97, 115, 115, 32], [112, 117, 98, 108, 105, 99], [112, 114, 111, 116, 101, 99, 116, 101, 100], [112, 114, 105, 118, 97, 116, 101], [97, 98, 115, 116, 114, 97, 99, 116], [115, 116, 97, 116, 105, 99], [102, 105, 110, 97, 108], [105, 110, 116, 101, 114, 102, 97, 99, 101], [67, 108, 97, 115, 115, 80, 114, 111, 98, 101, 36], [90, 66, 67, 83, 73, 74, 70, 68, 86]]
def li_x (i : Nat) : List Nat := li_tab.getD i []
def li_c (i j : Nat) : Int32 := nI ((li_x i).getD j 0)
/-- the literals are where they are -/
def Ls (adK : Nat → Nat) (U : State) : Prop := ∀ (i : Nat) (q : String × Nat × String), li[i]? = some q → vk_R q.1 q.2.1 q.2.2 (adK i) U
/-- the literals' cells -/
def kS (adK adV : Nat → Nat) (A : Nat → Prop) (U : State) (H : Heap) : Prop := ∀ i : Nat, i < 41 → va_O "java/lang/String" (adK i) A U H ∧ va_OF "java/lang/String" "coder" "B" (.int 0) (adK i) A U H ∧ va_OF "java/lang/String" "value" "[B" (.ref (adV i)) (adK i) A U H ∧ va_T .byte (adV i) (li_x i).length (fun j => .int (li_c i j)) A U H
theorem kS.moved {adK adV : Nat → Nat} {A : Nat → Prop} {u U : State} {H : Heap} (hvm : u.vm.Alike U.vm) (h : kS adK adV A u H) : kS adK adV A U H := fun i hi => ⟨(h i hi).1.moved hvm, (h i hi).2.1.moved hvm, (h i hi).2.2.1.moved hvm, (h i hi).2.2.2.moved hvm⟩
theorem kS.kept {adK adV : Nat → Nat} {A : Nat → Prop} {U : State} {H H1 : Heap} (h : kS adK adV A U H) (hq : ∀ a : Nat, a < H.size → ¬ A a → H1[a]? = H[a]?) : kS adK adV A U H1 := fun i hi => ⟨(h i hi).1.kept hq, (h i hi).2.1.kept hq, (h i hi).2.2.1.kept hq, (h i hi).2.2.2.kept hq⟩
theorem kS.narrow {adK adV : Nat → Nat} {A B : Nat → Prop} {U : State} {H : Heap} (h : kS adK adV A U H) (hAB : ∀ q, B q → A q) : kS adK adV B U H := fun i hi => ⟨(h i hi).1.narrow hAB, (h i hi).2.1.narrow hAB, (h i hi).2.2.1.narrow hAB, (h i hi).2.2.2.narrow hAB⟩
/-- what stays the same over a whole run: class numbers and slots, the class numbers of int[] and byte[], the literals' addresses -/
abbrev gT : Type := va_G × ClassId × ClassId × (Nat → Nat) × (Nat → Nat)
abbrev gD (g : gT) : va_G := g.1
abbrev gI (g : gT) : ClassId := g.2.1
abbrev gB (g : gT) : ClassId := g.2.2.1
abbrev gK (g : gT) : Nat → Nat := g.2.2.2.1
abbrev gV (g : gT) : Nat → Nat := g.2.2.2.2
abbrev gTy (g : gT) : List (ClassId × FieldType) := [(gI g, .int), (gB g, .byte)]
def Gx (g : gT) (A : Nat → Prop) (U : State) (H : Heap) : Prop := Nst U ∧ va_K (gD g) classes (gTy g) U ∧ Ls (gK g) U ∧ kS (gK g) (gV g) A U H ∧ va_Z "java/lang/String" "COMPACT_STRINGS" "Z" (.int 1) A U H ∧ va_Zq "jdk/internal/util/Preconditions" "SIOOBE_FORMATTER" "Ljava/util/function/BiFunction;" A U H
theorem Gx.call {g : gT} {A : Nat → Prop} {U : State} {H : Heap} {f : JFrame} {mk : MethodId} {a : Array Value} (h : Gx g A U H) : Gx g A (U.calling f mk a) H :=
  ⟨h.1.call, va_K.moved (u := U) (U := U.calling f mk a) (Vm.Alike.refl U.vm) h.2.1, fun i q hq => vk_R.same (u := U) rfl (h.2.2.1 i q hq), kS.moved (u := U) (U := U.calling f mk a) (Vm.Alike.refl U.vm) h.2.2.2.1, va_Z.moved (u := U) (U := U.calling f mk a) (Vm.Alike.refl U.vm) h.2.2.2.2.1, va_Zq.moved (u := U) (U := U.calling f mk a) (Vm.Alike.refl U.vm) h.2.2.2.2.2⟩
theorem Gx.down {g : gT} {A B : Nat → Prop} {s U : State} {H : Heap} {locs : List Loc} (h : Gx g A s s.heap) (hS : va_S A s.heap H locs) (hAB : ∀ q, B q → A q) (hW : s.WarmedH U.vm) : Gx g B U H :=
  ⟨h.1.warm hW, va_K.moved hW.alike h.2.1, fun i q hq => vk_R.warm hW (h.2.2.1 i q hq), ((h.2.2.2.1.kept hS.2.1).narrow hAB).moved hW.alike, ((h.2.2.2.2.1.kept hS.2.1).narrow hAB).moved hW.alike, ((h.2.2.2.2.2.kept hS.2.1).narrow hAB).moved hW.alike⟩
def Cw (g : gT) (ws : va_W) (sz : Nat) (U : State) : Prop := U.heap.size = sz ∧ va_P (gD g) classes ws U.heap ∧ va_D (fun _ => True) ws ∧ Gx g (va_A ws sz) U U.heap
theorem cw_blind {g : gT} {ws : va_W} {sz : Nat} {As : List Value} : FrameBlind (va_Pc As (Cw g ws sz)) := fun _ _ _ _ q => ⟨q.1, q.2.1, q.2.2.1, q.2.2.2.1, q.2.2.2.2.call⟩
theorem fm_of {α : Type} {f : Nat → Option α} {l : List Nat} {w : List α} (h : l.map f = w.map some) : l.filterMap f = w := by
  have h1 : l.filterMap f = (l.map f).filterMap id := by rw [List.filterMap_map]; rfl
  rw [h1, h, List.filterMap_map]
  exact List.filterMap_some
theorem cw_down {g : gT} {A : Nat → Prop} {s : State} {H : Heap} {locs : List Loc} {ws wc : va_W} (G : Gx g A s s.heap) (hP : va_P (gD g) classes ws H) (hD : va_D A ws) (hS : va_S A s.heap H locs) (hA : ∀ q, s.heap.size ≤ q → A q) (is : List Nat) (hn : va_nd is = true) (hC : is.map (fun i => ws[i]?) = wc.map some) : ∀ U : State, U.heap = H → s.WarmedH U.vm → Cw g wc H.size U := by
  intro U hU hW
  subst hU
  exact ⟨rfl, hP.sub is (fm_of hC), (hD.sub is hn hC).weaken (fun _ _ _ _ => trivial), G.down hS (va_free hD hS hA is hC) hW⟩
/-- a method's contract over a world of cells -/
def Mg (g : gT) (l : Launch) (y : MethodName) (b : ByteArray) (n : Nat) (ret : Option FieldType) (fr lo mc ms : Nat) (As : List Value) (ws : va_W) (sz : Nat) (QA : (Nat → Prop) → Array Value → State → Outcome → State → Prop) : Prop :=
  Met l y (wk y b n ret) ({ frames := fr, cells := mc, slots := ms, locals := lo }) (va_Pc As (Cw g ws sz)) (QA (va_A ws sz)) mc ms (va_A ws sz)
def qI (g : gT) (post : Int32 → va_W → Prop) (A : Nat → Prop) : Array Value → State → Outcome → State → Prop := va_Qi post (fun w1 t => va_P (gD g) classes w1 t.heap ∧ va_D A w1) A
def qV (g : gT) (post : va_W → Prop) (A : Nat → Prop) : Array Value → State → Outcome → State → Prop := va_Qv post (fun w1 t => va_P (gD g) classes w1 t.heap ∧ va_D A w1) A
def qR (g : gT) (post : Nat → va_W → Prop) (A : Nat → Prop) : Array Value → State → Outcome → State → Prop := va_Qr (S := va_W × Nat) (fun u => post u.2 u.1) (fun u a t => a = u.2 ∧ va_P (gD g) classes u.1 t.heap ∧ va_D A u.1) A
section HB
variable {p : Program} {l : Launch} {e : Env} {R : Room} {s : State} {m : MethodId} {args : Array Value} {below : List Frame} {meth : Method} {c : Code} {H : Heap} {locs : List Loc} {cells slots : Nat} {Q : State → Prop}
variable {cc b : ByteArray} {pc nL n fr lo index mc ms : Nat} {ls : Array Slot} {rest st0 As : List Value} {y : MethodName} {ret : Option FieldType} {own host C : String} {g : gT} {A : Nat → Prop} {ws wc wr : va_W} {QA : (Nat → Prop) → Array Value → State → Outcome → State → Prop} {sz : Nat}
theorem mg_of (hy : plainName y.cls = true) (hlen : (lg_sl As).length ≤ n)
    (body : ∀ (p : Program) (e : Env) (s : State) (m : MethodId) (below : List Frame) (meth : Method) (c : Code) (ls : Array Slot) (A : Nat → Prop), p.tables.exec = Jvm.exec → c.code = b → CallFix p m c b n s As.toArray tk y.cls → meth.sig.returnType = ret → meth.locks = false → meth.name = y.name → (∀ q, s.heap.size ≤ q → A q) → Gx g A s s.heap → va_P (gD g) classes ws s.heap → va_D A ws → va_S A s.heap s.heap [] → lv_has ls n (lv_args 0 As) →
      W p l e ({ frames := fr, cells := mc, slots := ms, locals := lo }) s m As.toArray below meth c s.heap [] 0 0 (MQ below (QA A) As.toArray s mc ms A) (F0 m 0 ls [])) : Mg g l y b n ret fr lo mc ms As ws sz QA := by
  refine Met.ofW (cc := b) (maxL := n) (ret := ret) hy rfl ?_
  intro p e s m args below meth c s₁ B hml hv
  obtain ⟨rfl, rfl, hP, hD, G⟩ := hv
  have hts := atoms_spec (ws := wk y b n ret) B.pre
  have hl := lv_entry As (n := n) hlen
  rw [lg_entry_eq]
  have h1 := body p e s m below meth c _ (va_A ws s.heap.size) B.exec B.bytes ⟨B.exec, B.bytes, hml, findClass_of_methodNamed B.named, fun w hw => hts w (List.mem_cons_of_mem _ hw)⟩ B.returns B.notSynchronized (name_of_methodNamed B.named B.method).1 (fun q h => Or.inr h) G hP hD.self va_S.rf hl
  exact h1
theorem run_S (hF : CallFix p m c cc nL s args tk own) (hM : Mg g l y b n ret fr lo mc ms As wc H.size QA) (k : ck y b n ret As.length (.static y)) (hl : Cond.methodLink own index y ∈ tk) (hp : ∀ U : State, U.heap = H → s.WarmedH U.vm → Cw g wc H.size U)
    (hR : fr + 1 ≤ R.frames ∧ 8 + (n + 11) + lo ≤ R.locals) (hst : st0 = As.reverse ++ rest) (hsz : ls.size = nL) (hW : (rest.map fun v => v.category).sum ≤ 8) (hdg : decode cc pc = .ok (.invokestatic index, 3)) (hf : cells + mc ≤ R.cells ∧ slots + ms ≤ R.slots) :
    va_Run p l e R s m args below meth c H locs cells slots mc ms (F0 m pc ls st0) rest (QA (va_A wc H.size) As.toArray) (va_A wc H.size) :=
  va_runS hF hM ⟨callB_of As.length hF.2.2.2.2 (tk_in k.1) rfl rfl rfl (hF.2.2.2.2 _ k.2.2.1) (hF.2.2.2.2 _ hl) k.2.2.2 hR, hF.2.2.2.2 _ k.2.1⟩ ⟨cw_blind, fun U hU hW => ⟨rfl, hp U hU hW⟩⟩ rfl rfl hsz hst (lv_room hW) hdg hf
theorem run_SN (hF : CallFix p m c cc nL s args tk own) (hN : Nst s) (hM : Mg g l y b n ret fr lo mc ms As wc H.size QA) (k : ck y b n ret As.length (.static y)) (hl : Cond.methodLinkNest own index y host ∈ nw_l) (hp : ∀ U : State, U.heap = H → s.WarmedH U.vm → Cw g wc H.size U)
    (hR : fr + 1 ≤ R.frames ∧ 8 + (n + 11) + lo ≤ R.locals) (hst : st0 = As.reverse ++ rest) (hsz : ls.size = nL) (hW : (rest.map fun v => v.category).sum ≤ 8) (hdg : decode cc pc = .ok (.invokestatic index, 3)) (hf : cells + mc ≤ R.cells ∧ slots + ms ≤ R.slots) :
    va_Run p l e R s m args below meth c H locs cells slots mc ms (F0 m pc ls st0) rest (QA (va_A wc H.size) As.toArray) (va_A wc H.size) :=
  va_runSN hF hM ⟨va_cnB As.length hF.2.2.2.2 (tk_in k.1) rfl rfl rfl (hN _ hl) (hF.2.2.2.2 _ k.2.2.1) k.2.2.2 hR, hF.2.2.2.2 _ k.2.1, trivial⟩ ⟨cw_blind, fun U hU hW => ⟨rfl, hp U hU hW⟩⟩ rfl rfl hsz hst (lv_room hW) hdg hf
theorem run_V {a : Nat} (hF : CallFix p m c cc nL s args tk own) (hM : Mg g l y b n ret fr lo mc ms (.ref a :: As) wc H.size QA) (k : ck y b n ret As.length (.instanceMethod y)) (hl : Cond.methodLink own index y ∈ tk) (hse : Cond.selects y.cls y y ∈ tk) (hc : ∃ cell : Cell, H[a]? = some cell ∧ cell.vm.isStatics = false ∧ s.vm.findClass y.cls = some cell.cls) (hp : ∀ U : State, U.heap = H → s.WarmedH U.vm → Cw g wc H.size U)
    (hR : fr + 1 ≤ R.frames ∧ 8 + (n + 11) + lo ≤ R.locals) (hst : st0 = As.reverse ++ .ref a :: rest) (hsz : ls.size = nL) (hW : (rest.map fun v => v.category).sum ≤ 8) (hdg : decode cc pc = .ok (.invokevirtual index, 3)) (hf : cells + mc ≤ R.cells ∧ slots + ms ≤ R.slots) :
    va_Run p l e R s m args below meth c H locs cells slots mc ms (F0 m pc ls st0) rest (QA (va_A wc H.size) (Value.ref a :: As).toArray) (va_A wc H.size) :=
  va_runV hF hM ⟨callB_of As.length hF.2.2.2.2 (tk_in k.1) rfl rfl rfl (hF.2.2.2.2 _ k.2.2.1) (hF.2.2.2.2 _ hl) k.2.2.2 hR, hF.2.2.2.2 _ k.2.1, hF.2.2.2.2 _ hse⟩ ⟨cw_blind, hc, fun U hU hW => ⟨rfl, hp U hU hW⟩⟩ rfl rfl hsz hst (lv_room hW) hdg hf
theorem run_VN {a : Nat} (hF : CallFix p m c cc nL s args tk own) (hN : Nst s) (hM : Mg g l y b n ret fr lo mc ms (.ref a :: As) wc H.size QA) (k : ck y b n ret As.length (.instanceMethod y)) (hl : Cond.methodLinkNest own index y host ∈ nw_l) (hse : Cond.selects y.cls y y ∈ tk) (hc : ∃ cell : Cell, H[a]? = some cell ∧ cell.vm.isStatics = false ∧ s.vm.findClass y.cls = some cell.cls) (hp : ∀ U : State, U.heap = H → s.WarmedH U.vm → Cw g wc H.size U)
    (hR : fr + 1 ≤ R.frames ∧ 8 + (n + 11) + lo ≤ R.locals) (hst : st0 = As.reverse ++ .ref a :: rest) (hsz : ls.size = nL) (hW : (rest.map fun v => v.category).sum ≤ 8) (hdg : decode cc pc = .ok (.invokevirtual index, 3)) (hf : cells + mc ≤ R.cells ∧ slots + ms ≤ R.slots) :
    va_Run p l e R s m args below meth c H locs cells slots mc ms (F0 m pc ls st0) rest (QA (va_A wc H.size) (Value.ref a :: As).toArray) (va_A wc H.size) :=
  va_runVN hF hM ⟨va_cnB As.length hF.2.2.2.2 (tk_in k.1) rfl rfl rfl (hN _ hl) (hF.2.2.2.2 _ k.2.2.1) k.2.2.2 hR, hF.2.2.2.2 _ k.2.1, hF.2.2.2.2 _ hse⟩ ⟨cw_blind, hc, fun U hU hW => ⟨rfl, hp U hU hW⟩⟩ rfl rfl hsz hst (lv_room hW) hdg hf
theorem run_I {a : Nat} (hF : CallFix p m c cc nL s args tk own) (hM : Mg g l y b n none fr lo mc ms (.ref a :: As) wc H.size QA) (k : ck y b n none As.length (.instanceMethod y)) (hl : Cond.methodLink own index y ∈ tk) (hi : y.name = "<init>") (hp : ∀ U : State, U.heap = H → s.WarmedH U.vm → Cw g wc H.size U)
    (hR : fr + 1 ≤ R.frames ∧ 8 + (n + 11) + lo ≤ R.locals) (hst : st0 = As.reverse ++ .ref a :: rest) (hsz : ls.size = nL) (hW : (rest.map fun v => v.category).sum ≤ 8) (hdg : decode cc pc = .ok (.invokespecial index, 3)) (hf : cells + mc ≤ R.cells ∧ slots + ms ≤ R.slots) :
    va_Run p l e R s m args below meth c H locs cells slots mc ms (F0 m pc ls st0) rest (QA (va_A wc H.size) (Value.ref a :: As).toArray) (va_A wc H.size) :=
  va_runI hF hM ⟨callB_of As.length hF.2.2.2.2 (tk_in k.1) rfl rfl rfl (hF.2.2.2.2 _ k.2.2.1) (hF.2.2.2.2 _ hl) k.2.2.2 hR, hi, hF.2.2.2.2 _ k.2.1⟩ ⟨cw_blind, fun U hU hW => ⟨rfl, hp U hU hW⟩⟩ rfl rfl hsz hst (lv_room hW) hdg hf
theorem run_IN {a : Nat} (hF : CallFix p m c cc nL s args tk own) (hN : Nst s) (hM : Mg g l y b n none fr lo mc ms (.ref a :: As) wc H.size QA) (k : ck y b n none As.length (.instanceMethod y)) (hl : Cond.methodLinkNest own index y host ∈ nw_l) (hi : y.name = "<init>") (hp : ∀ U : State, U.heap = H → s.WarmedH U.vm → Cw g wc H.size U)
    (hR : fr + 1 ≤ R.frames ∧ 8 + (n + 11) + lo ≤ R.locals) (hst : st0 = As.reverse ++ .ref a :: rest) (hsz : ls.size = nL) (hW : (rest.map fun v => v.category).sum ≤ 8) (hdg : decode cc pc = .ok (.invokespecial index, 3)) (hf : cells + mc ≤ R.cells ∧ slots + ms ≤ R.slots) :
    va_Run p l e R s m args below meth c H locs cells slots mc ms (F0 m pc ls st0) rest (QA (va_A wc H.size) (Value.ref a :: As).toArray) (va_A wc H.size) :=
  va_runIN hF hM ⟨va_cnB As.length hF.2.2.2.2 (tk_in k.1) rfl rfl rfl (hN _ hl) (hF.2.2.2.2 _ k.2.2.1) k.2.2.2 hR, hi, hF.2.2.2.2 _ k.2.1⟩ ⟨cw_blind, fun U hU hW => ⟨rfl, hp U hU hW⟩⟩ rfl rfl hsz hst (lv_room hW) hdg hf
/-- a method of the class above, on an object of a class below -/
theorem run_U {a : Nat} (hF : CallFix p m c cc nL s args tk own) (hM : Mg g l y b n ret fr lo mc ms (.ref a :: As) wc H.size QA) (k : ck y b n ret As.length (.instanceMethod y)) (hl : Cond.methodLink own index y ∈ tk) (hsm : Cond.sameMethod y.cls y.cls y.name y.desc ∈ tk) (hse : Cond.selects C y y ∈ tk) (hc : ∃ cell : Cell, H[a]? = some cell ∧ cell.vm.isStatics = false ∧ s.vm.findClass C = some cell.cls) (hp : ∀ U : State, U.heap = H → s.WarmedH U.vm → Cw g wc H.size U)
    (hR : fr + 1 ≤ R.frames ∧ 8 + (n + 11) + lo ≤ R.locals) (hst : st0 = As.reverse ++ .ref a :: rest) (hsz : ls.size = nL) (hW : (rest.map fun v => v.category).sum ≤ 8) (hdg : decode cc pc = .ok (.invokevirtual index, 3)) (hf : cells + mc ≤ R.cells ∧ slots + ms ≤ R.slots) :
    va_Run p l e R s m args below meth c H locs cells slots mc ms (F0 m pc ls st0) rest (QA (va_A wc H.size) (Value.ref a :: As).toArray) (va_A wc H.size) :=
  va_runU hF hM (va_cwU (C := C) (owner := y.cls) (x := y) As.length hF.2.2.2.2 (fun w hw => by
    rcases List.mem_append.mp hw with h | h
    · simp only [List.mem_cons, List.not_mem_nil, or_false] at h
      rcases h with rfl | rfl | rfl | rfl | rfl
      · exact tk_good _ hl
      · exact tk_good _ hsm
      · exact tk_good _ hse
      · exact tk_good _ k.2.1
      · exact tk_good _ k.2.2.1
    · exact tk_in k.1 w h) rfl rfl rfl rfl k.2.2.2 hR) ⟨cw_blind, hc, fun U hU hW => ⟨rfl, hp U hU hW⟩⟩ rfl rfl hsz hst (lv_room hW) hdg hf
/-- super.m(..) -/
theorem run_SU {a : Nat} {cC : ClassId} (hat : ClassAt s C cC) (hF : CallFix p m c cc nL s args tk own) (hM : Mg g l y b n ret fr lo mc ms (.ref a :: As) wc H.size QA) (k : ck y b n ret As.length (.instanceMethod y)) (hl : Cond.methodLink own index y ∈ tk) (hsm : Cond.sameMethod y.cls y.cls y.name y.desc ∈ tk) (hsu : Cond.superclass own y.cls ∈ tk) (hno : y.name ≠ "<init>") (hc : ∃ cell : Cell, H[a]? = some cell ∧ cell.vm.isStatics = false ∧ s.vm.findClass C = some cell.cls) (hp : ∀ U : State, U.heap = H → s.WarmedH U.vm → Cw g wc H.size U)
    (hR : fr + 1 ≤ R.frames ∧ 8 + (n + 11) + lo ≤ R.locals) (hst : st0 = As.reverse ++ .ref a :: rest) (hsz : ls.size = nL) (hW : (rest.map fun v => v.category).sum ≤ 8) (hdg : decode cc pc = .ok (.invokespecial index, 3)) (hf : cells + mc ≤ R.cells ∧ slots + ms ≤ R.slots) :
    va_Run p l e R s m args below meth c H locs cells slots mc ms (F0 m pc ls st0) rest (QA (va_A wc H.size) (Value.ref a :: As).toArray) (va_A wc H.size) :=
  va_runSU hat hF hM (va_cwSU As.length hF.2.2.2.2 (fun w hw => by
    rcases List.mem_append.mp hw with h | h
    · simp only [List.mem_cons, List.not_mem_nil, or_false] at h
      rcases h with rfl | rfl | rfl | rfl | rfl
      · exact tk_good _ hl
      · exact tk_good _ hsm
      · exact tk_good _ hsu
      · exact tk_good _ k.2.1
      · exact tk_good _ k.2.2.1
    · exact tk_in k.1 w h) rfl rfl rfl ⟨hno, k.2.2.2.2.2⟩ hR) ⟨cw_blind, hc, fun U hU hW => ⟨rfl, hp U hU hW⟩⟩ rfl rfl hsz hst (lv_room hW) hdg hf
theorem go_i {a : Array Value} {post : Int32 → va_W → Prop} (run : va_Run p l e R s m args below meth c H locs cells slots mc ms (F0 m pc ls st0) rest (qI g post (va_A wc H.size) a) (va_A wc H.size)) (hP : va_P (gD g) classes ws H) (hD : va_D A ws) (hS : va_S A s.heap H locs) (hA : ∀ q, s.heap.size ≤ q → A q) (isC isR : List Nat) (hC : isC.map (fun i => ws[i]?) = wc.map some) (hR : isR.map (fun i => ws[i]?) = wr.map some) (hn : va_nd isR = true) (hdis : ∀ i ∈ isR, i ∉ isC)
    (kk : ∀ (r : Int32) (w1 : va_W) (H1 : Heap) (locs1 : List Loc), post r w1 → va_P (gD g) classes (wr ++ w1) H1 → va_D A (wr ++ w1) → va_S A s.heap H1 locs1 → W p l e R s m args below meth c H1 locs1 (cells + mc) (slots + ms) Q (F0 m (pc + 3) ls (.int r :: rest))) : W p l e R s m args below meth c H locs cells slots Q (F0 m pc ls st0) := by
  have hFc := va_free hD hS hA isC hC
  refine va_calli run hS (fun q _ h => hFc q h) hFc (fun r w1 t H1 locs1 ht _ hw hB _ hk1 hS1 => ?_)
  obtain ⟨hP1, hD1⟩ := hB
  rw [ht] at hP1
  obtain ⟨hP2, hD2⟩ := va_join hP hD isC isR hC hR hn hdis hk1 hFc hP1 hD1
  exact kk r w1 H1 locs1 hw hP2 hD2 hS1
theorem go_v {a : Array Value} {post : va_W → Prop} (run : va_Run p l e R s m args below meth c H locs cells slots mc ms (F0 m pc ls st0) rest (qV g post (va_A wc H.size) a) (va_A wc H.size)) (hP : va_P (gD g) classes ws H) (hD : va_D A ws) (hS : va_S A s.heap H locs) (hA : ∀ q, s.heap.size ≤ q → A q) (isC isR : List Nat) (hC : isC.map (fun i => ws[i]?) = wc.map some) (hR : isR.map (fun i => ws[i]?) = wr.map some) (hn : va_nd isR = true) (hdis : ∀ i ∈ isR, i ∉ isC)
    (kk : ∀ (w1 : va_W) (H1 : Heap) (locs1 : List Loc), post w1 → va_P (gD g) classes (wr ++ w1) H1 → va_D A (wr ++ w1) → va_S A s.heap H1 locs1 → W p l e R s m args below meth c H1 locs1 (cells + mc) (slots + ms) Q (F0 m (pc + 3) ls rest)) : W p l e R s m args below meth c H locs cells slots Q (F0 m pc ls st0) := by
  have hFc := va_free hD hS hA isC hC
  refine va_callv run hS (fun q _ h => hFc q h) hFc (fun w1 t H1 locs1 ht _ hw hB _ hk1 hS1 => ?_)
  obtain ⟨hP1, hD1⟩ := hB
  rw [ht] at hP1
  obtain ⟨hP2, hD2⟩ := va_join hP hD isC isR hC hR hn hdis hk1 hFc hP1 hD1
  exact kk w1 H1 locs1 hw hP2 hD2 hS1
theorem go_r {a : Array Value} {post : Nat → va_W → Prop} (run : va_Run p l e R s m args below meth c H locs cells slots mc ms (F0 m pc ls st0) rest (qR g post (va_A wc H.size) a) (va_A wc H.size)) (hP : va_P (gD g) classes ws H) (hD : va_D A ws) (hS : va_S A s.heap H locs) (hA : ∀ q, s.heap.size ≤ q → A q) (isC isR : List Nat) (hC : isC.map (fun i => ws[i]?) = wc.map some) (hR : isR.map (fun i => ws[i]?) = wr.map some) (hn : va_nd isR = true) (hdis : ∀ i ∈ isR, i ∉ isC)
    (kk : ∀ (r : Nat) (w1 : va_W) (H1 : Heap) (locs1 : List Loc), post r w1 → va_P (gD g) classes (wr ++ w1) H1 → va_D A (wr ++ w1) → va_S A s.heap H1 locs1 → W p l e R s m args below meth c H1 locs1 (cells + mc) (slots + ms) Q (F0 m (pc + 3) ls (.ref r :: rest))) : W p l e R s m args below meth c H locs cells slots Q (F0 m pc ls st0) := by
  have hFc := va_free hD hS hA isC hC
  refine va_callr run hS (fun q _ h => hFc q h) hFc (fun u ra t H1 locs1 ht _ hw hB _ hk1 hS1 => ?_)
  obtain ⟨w1, r⟩ := u
  obtain ⟨rfl, hP1, hD1⟩ := hB
  rw [ht] at hP1
  obtain ⟨hP2, hD2⟩ := va_join hP hD isC isR hC hR hn hdis hk1 hFc hP1 hD1
  exact kk _ w1 H1 locs1 hw hP2 hD2 hS1
theorem ret_i {rt : FieldType} {post : Int32 → va_W → Prop} {v : Int32} {w1 : va_W} (hx : p.tables.exec = Jvm.exec) (hb : c.code = b) (hr : meth.sig.returnType = some rt) (hlk : meth.locks = false) (hP : va_P (gD g) classes w1 H) (hD : va_D A w1) (hS : va_S A s.heap H locs) (hn : narrow rt (.int v) = .int v) (hp : post v w1) (hc : cells ≤ mc) (hs : slots ≤ ms) (hdg : decode b pc = .ok (.ireturn, 1)) :
    W p l e R s m args below meth c H locs cells slots (MQ below (qI g post A) args s mc ms A) (F0 m pc ls [.int v]) :=
  W.widen hc hs (W.zret hx hb hr hn (fun _ ht _ => ⟨⟨v, w1, rfl, hp, by rw [ht]; exact hP, hD⟩, hS.F ht⟩) hS.2.2 hdg hlk)
theorem ret_v {post : va_W → Prop} {w1 : va_W} (hx : p.tables.exec = Jvm.exec) (hb : c.code = b) (hr : meth.sig.returnType = none) (hlk : meth.locks = false) (hP : va_P (gD g) classes w1 H) (hD : va_D A w1) (hS : va_S A s.heap H locs) (hp : post w1) (hc : cells ≤ mc) (hs : slots ≤ ms) (hdg : decode b pc = .ok (.return_, 1)) :
    W p l e R s m args below meth c H locs cells slots (MQ below (qV g post A) args s mc ms A) (F0 m pc ls []) :=
  W.widen hc hs (W.vret hx hb hr (fun _ ht _ => ⟨⟨w1, rfl, hp, by rw [ht]; exact hP, hD⟩, hS.F ht⟩) hS.2.2 hdg hlk)
theorem ret_r {rt : FieldType} {post : Nat → va_W → Prop} {v : Nat} {w1 : va_W} (hx : p.tables.exec = Jvm.exec) (hb : c.code = b) (hr : meth.sig.returnType = some rt) (hrt : (∃ n, rt = .object n) ∨ ∃ t, rt = .array t) (hlk : meth.locks = false) (hP : va_P (gD g) classes w1 H) (hD : va_D A w1) (hS : va_S A s.heap H locs) (hp : post v w1) (hc : cells ≤ mc) (hs : slots ≤ ms) (hdg : decode b pc = .ok (.areturn, 1)) :
    W p l e R s m args below meth c H locs cells slots (MQ below (qR g post A) args s mc ms A) (F0 m pc ls [.ref v]) :=
  W.widen hc hs (W.aret hx hb hr hrt (Or.inr ⟨v, rfl⟩) (fun _ ht _ => ⟨⟨(w1, v), v, rfl, hp, rfl, by rw [ht]; exact hP, hD⟩, hS.F ht⟩) hS.2.2 hdg hlk)
end HB
theorem cA_int {g : gT} {cA : ClassId} {s : State} (h : va_K (gD g) classes (gTy g ++ [(cA, .int)]) s) : cA = gI g := by
  have h1 := (h.2 0 _ rfl).2
  have h2 := (h.2 2 _ rfl).2
  exact Option.some.inj (h2.symm.trans h1)
theorem cA_byte {g : gT} {cA : ClassId} {s : State} (h : va_K (gD g) classes (gTy g ++ [(cA, .byte)]) s) : cA = gB g := by
  have h1 := (h.2 1 _ rfl).2
  have h2 := (h.2 2 _ rfl).2
  exact Option.some.inj (h2.symm.trans h1)
end
section
section TP
variable {p : Program} {l : Launch} {e : Env} {R : Room} {s : State} {m : MethodId} {args : Array Value} {below : List Frame} {meth : Method} {c : Code} {H : Heap} {locs : List Loc} {cells slots : Nat} {Q : State → Prop} {pc : Nat} {ls : Array Slot} {rest : List Value}
theorem tp_i {x y : Int32} (h : x = y) (k : W p l e R s m args below meth c H locs cells slots Q (F0 m pc ls (.int y :: rest))) : W p l e R s m args below meth c H locs cells slots Q (F0 m pc ls (.int x :: rest)) := by rw [h]; exact k
theorem tp_l {x y : Int64} (h : x = y) (k : W p l e R s m args below meth c H locs cells slots Q (F0 m pc ls (.long y :: rest))) : W p l e R s m args below meth c H locs cells slots Q (F0 m pc ls (.long x :: rest)) := by rw [h]; exact k
end TP
theorem ac_int : Cond.arrayClass .int ∈ tk := tk_of (List.mem_of_getElem? (i := 97) (by decide +kernel)) rfl
theorem ac_byte : Cond.arrayClass .byte ∈ tk := tk_of (List.mem_of_getElem? (i := 98) (by decide +kernel)) rfl
end
section
theorem m_pmd : ∀ j : Nat, j < 25 → ¬ 9 ≤ nI j ∨ ¬ (nI j - 9 < 0 ∨ 16 ≤ (nI j - 9).toNatClampNeg) := by decide +kernel
theorem m_pm {t : Int32} (h : 9 ≤ t) (h2 : t < 25) : vp_in (t - 9) 16 := by
  obtain ⟨j, hj, rfl⟩ := nI_of (x := t) (fun q => absurd (Int32.lt_of_le_of_lt h q) (by decide))
  exact (m_pmd j ((nI_ltI hj (b := 25) (by decide)).mp h2)).resolve_left (fun q => q h)
theorem m_pl0d : ∀ j : Nat, j < 120 → ¬ f_M_plain (nI j) < 0 := by decide +kernel
theorem m_pl0 {t : Int32} {j : Nat} (hj : j < 120) (ej : t = nI j) : ¬ f_M_plain t < 0 := by rw [ej]; exact m_pl0d j hj
theorem m_pld : ∀ j : Nat, j < 120 → f_M_isType (nI j) = 0 ∨ f_M_plain (nI j) < 25 := by decide +kernel
theorem m_pl2d : ∀ j : Nat, j < 120 → f_M_isType (nI j) = 0 ∨ ¬ nI j < 40 ∨ nI j < 25 := by decide +kernel
theorem m_pl2 {t : Int32} {j : Nat} (hj : j < 120) (ej : t = nI j) (hty : ¬ f_M_isType t = 0) (h : t < 40) : t < 25 := by
  rw [ej] at hty h ⊢
  exact ((m_pl2d j hj).resolve_left hty).resolve_left (fun q => q h)
theorem m_plt {t : Int32} {j : Nat} (hj : j < 120) (ej : t = nI j) (hty : ¬ f_M_isType t = 0) : f_M_plain t < 25 := by
  rw [ej] at hty ⊢
  exact (m_pld j hj).resolve_left hty
def f_M_sign (t : Int32) : Int32 := ((upd (upd (upd (upd (upd (upd (upd (upd (upd (fun _ => 0) (0 : Int32).toNatClampNeg 90) (1 : Int32).toNatClampNeg 66) (2 : Int32).toNatClampNeg 67) (3 : Int32).toNatClampNeg 83) (4 : Int32).toNatClampNeg 73) (5 : Int32).toNatClampNeg 74) (6 : Int32).toNatClampNeg 70) (7 : Int32).toNatClampNeg 68) (8 : Int32).toNatClampNeg 86) (t : Int32).toNatClampNeg)
set_option maxRecDepth 100000 in
theorem k_M_sign : ck y_M_sign b_M_sign 2 (some .int) 1 (.static y_M_sign) := ⟨tk_of (List.mem_of_getElem? (i := 729) rfl) rfl, tk_of (List.mem_of_getElem? (i := 728) (by decide +kernel)) rfl, tk_of (List.mem_of_getElem? (i := 43) (by decide +kernel)) rfl, by decide +kernel⟩
set_option maxHeartbeats 4000000 in
set_option maxRecDepth 100000 in
theorem c_M_sign (g : gT) (l : Launch) (sz : Nat) (t : Int32) (ht : vp_in t 9) : Mg g l y_M_sign b_M_sign 2 (some .int) 0 0 1 9 [.int t] [] sz (qI g (fun r w1 => r = f_M_sign t ∧ w1 = [])) := by
  refine mg_of (by decide) (Nat.le_of_ble_eq_true rfl) ?_
  intro p e s m below meth c ls A hx hb hF hr hlk hnm hA G hP hD hS hl
  have hK := G.2.1
  have hN := G.1
  have hl : lv_has ls 2 [(0, .int t)] := hl
  refine lv_bipush (v := 9) hx hb d_M_sign_0 (by decide) ?_
  refine va_newa (atype := .int) (D := gD g) (cl := classes) (tys := gTy g) hx hb (hF.2.2.2.2 _ ac_int) (ty := .int) rfl hK hP hD hS hA (N' := 9) (a0 := (9, .inl (fun _ => 0))) (fun _ => rfl) (by decide) (by decide) (by decide) (by first | omega | decide) (by first | omega | decide) d_M_sign_2 (fun q_1 cA H hK2 hP hD hS => ?_)
  obtain rfl := cA_int hK2
  have hP : va_P (gD g) classes [(q_1, .inl (gI g, 9, .inl (fun _ => 0)))] H := hP
  have hD : va_D A [(q_1, .inl (gI g, 9, .inl (fun _ => 0)))] := hD
  refine lv_dup hx hb d_M_sign_4 rfl ?_
  refine lv_iconst (v := 0) hx hb d_M_sign_5 (by decide) ?_
  refine lv_bipush (v := 90) hx hb d_M_sign_6 (by decide) ?_
  refine va_iast hx hb hK hP hD hS 0 0 rfl rfl (vp_in_nI (n := 0) (N := 9) (by decide) (by decide)) d_M_sign_8 (fun H locs hP hD hS => ?_)
  have hP : va_P (gD g) classes [(q_1, .inl (gI g, 9, .inl (upd (fun _ => 0) (0 : Int32).toNatClampNeg 90)))] H := hP
  have hD : va_D A [(q_1, .inl (gI g, 9, .inl (upd (fun _ => 0) (0 : Int32).toNatClampNeg 90)))] := hD
  refine lv_dup hx hb d_M_sign_9 rfl ?_
  refine lv_iconst (v := 1) hx hb d_M_sign_10 (by decide) ?_
  refine lv_bipush (v := 66) hx hb d_M_sign_11 (by decide) ?_
  refine va_iast hx hb hK hP hD hS 0 0 rfl rfl (vp_in_nI (n := 1) (N := 9) (by decide) (by decide)) d_M_sign_13 (fun H locs hP hD hS => ?_)
  have hP : va_P (gD g) classes [(q_1, .inl (gI g, 9, .inl (upd (upd (fun _ => 0) (0 : Int32).toNatClampNeg 90) (1 : Int32).toNatClampNeg 66)))] H := hP
  have hD : va_D A [(q_1, .inl (gI g, 9, .inl (upd (upd (fun _ => 0) (0 : Int32).toNatClampNeg 90) (1 : Int32).toNatClampNeg 66)))] := hD
  refine lv_dup hx hb d_M_sign_14 rfl ?_
  refine lv_iconst (v := 2) hx hb d_M_sign_15 (by decide) ?_
  refine lv_bipush (v := 67) hx hb d_M_sign_16 (by decide) ?_
  refine va_iast hx hb hK hP hD hS 0 0 rfl rfl (vp_in_nI (n := 2) (N := 9) (by decide) (by decide)) d_M_sign_18 (fun H locs hP hD hS => ?_)
  have hP : va_P (gD g) classes [(q_1, .inl (gI g, 9, .inl (upd (upd (upd (fun _ => 0) (0 : Int32).toNatClampNeg 90) (1 : Int32).toNatClampNeg 66) (2 : Int32).toNatClampNeg 67)))] H := hP
  have hD : va_D A [(q_1, .inl (gI g, 9, .inl (upd (upd (upd (fun _ => 0) (0 : Int32).toNatClampNeg 90) (1 : Int32).toNatClampNeg 66) (2 : Int32).toNatClampNeg 67)))] := hD
  refine lv_dup hx hb d_M_sign_19 rfl ?_
  refine lv_iconst (v := 3) hx hb d_M_sign_20 (by decide) ?_
  refine lv_bipush (v := 83) hx hb d_M_sign_21 (by decide) ?_
  refine va_iast hx hb hK hP hD hS 0 0 rfl rfl (vp_in_nI (n := 3) (N := 9) (by decide) (by decide)) d_M_sign_23 (fun H locs hP hD hS => ?_)
  have hP : va_P (gD g) classes [(q_1, .inl (gI g, 9, .inl (upd (upd (upd (upd (fun _ => 0) (0 : Int32).toNatClampNeg 90) (1 : Int32).toNatClampNeg 66) (2 : Int32).toNatClampNeg 67) (3 : Int32).toNatClampNeg 83)))] H := hP
  have hD : va_D A [(q_1, .inl (gI g, 9, .inl (upd (upd (upd (upd (fun _ => 0) (0 : Int32).toNatClampNeg 90) (1 : Int32).toNatClampNeg 66) (2 : Int32).toNatClampNeg 67) (3 : Int32).toNatClampNeg 83)))] := hD
  refine lv_dup hx hb d_M_sign_24 rfl ?_
  refine lv_iconst (v := 4) hx hb d_M_sign_25 (by decide) ?_
  refine lv_bipush (v := 73) hx hb d_M_sign_26 (by decide) ?_
  refine va_iast hx hb hK hP hD hS 0 0 rfl rfl (vp_in_nI (n := 4) (N := 9) (by decide) (by decide)) d_M_sign_28 (fun H locs hP hD hS => ?_)
  have hP : va_P (gD g) classes [(q_1, .inl (gI g, 9, .inl (upd (upd (upd (upd (upd (fun _ => 0) (0 : Int32).toNatClampNeg 90) (1 : Int32).toNatClampNeg 66) (2 : Int32).toNatClampNeg 67) (3 : Int32).toNatClampNeg 83) (4 : Int32).toNatClampNeg 73)))] H := hP
  have hD : va_D A [(q_1, .inl (gI g, 9, .inl (upd (upd (upd (upd (upd (fun _ => 0) (0 : Int32).toNatClampNeg 90) (1 : Int32).toNatClampNeg 66) (2 : Int32).toNatClampNeg 67) (3 : Int32).toNatClampNeg 83) (4 : Int32).toNatClampNeg 73)))] := hD
  refine lv_dup hx hb d_M_sign_29 rfl ?_
  refine lv_iconst (v := 5) hx hb d_M_sign_30 (by decide) ?_
  refine lv_bipush (v := 74) hx hb d_M_sign_31 (by decide) ?_
  refine va_iast hx hb hK hP hD hS 0 0 rfl rfl (vp_in_nI (n := 5) (N := 9) (by decide) (by decide)) d_M_sign_33 (fun H locs hP hD hS => ?_)
  have hP : va_P (gD g) classes [(q_1, .inl (gI g, 9, .inl (upd (upd (upd (upd (upd (upd (fun _ => 0) (0 : Int32).toNatClampNeg 90) (1 : Int32).toNatClampNeg 66) (2 : Int32).toNatClampNeg 67) (3 : Int32).toNatClampNeg 83) (4 : Int32).toNatClampNeg 73) (5 : Int32).toNatClampNeg 74)))] H := hP
  have hD : va_D A [(q_1, .inl (gI g, 9, .inl (upd (upd (upd (upd (upd (upd (fun _ => 0) (0 : Int32).toNatClampNeg 90) (1 : Int32).toNatClampNeg 66) (2 : Int32).toNatClampNeg 67) (3 : Int32).toNatClampNeg 83) (4 : Int32).toNatClampNeg 73) (5 : Int32).toNatClampNeg 74)))] := hD
  refine lv_dup hx hb d_M_sign_34 rfl ?_
  refine lv_bipush (v := 6) hx hb d_M_sign_35 (by decide) ?_
  refine lv_bipush (v := 70) hx hb d_M_sign_37 (by decide) ?_
  refine va_iast hx hb hK hP hD hS 0 0 rfl rfl (vp_in_nI (n := 6) (N := 9) (by decide) (by decide)) d_M_sign_39 (fun H locs hP hD hS => ?_)
  have hP : va_P (gD g) classes [(q_1, .inl (gI g, 9, .inl (upd (upd (upd (upd (upd (upd (upd (fun _ => 0) (0 : Int32).toNatClampNeg 90) (1 : Int32).toNatClampNeg 66) (2 : Int32).toNatClampNeg 67) (3 : Int32).toNatClampNeg 83) (4 : Int32).toNatClampNeg 73) (5 : Int32).toNatClampNeg 74) (6 : Int32).toNatClampNeg 70)))] H := hP
  have hD : va_D A [(q_1, .inl (gI g, 9, .inl (upd (upd (upd (upd (upd (upd (upd (fun _ => 0) (0 : Int32).toNatClampNeg 90) (1 : Int32).toNatClampNeg 66) (2 : Int32).toNatClampNeg 67) (3 : Int32).toNatClampNeg 83) (4 : Int32).toNatClampNeg 73) (5 : Int32).toNatClampNeg 74) (6 : Int32).toNatClampNeg 70)))] := hD
  refine lv_dup hx hb d_M_sign_40 rfl ?_
  refine lv_bipush (v := 7) hx hb d_M_sign_41 (by decide) ?_
  refine lv_bipush (v := 68) hx hb d_M_sign_43 (by decide) ?_
  refine va_iast hx hb hK hP hD hS 0 0 rfl rfl (vp_in_nI (n := 7) (N := 9) (by decide) (by decide)) d_M_sign_45 (fun H locs hP hD hS => ?_)
  have hP : va_P (gD g) classes [(q_1, .inl (gI g, 9, .inl (upd (upd (upd (upd (upd (upd (upd (upd (fun _ => 0) (0 : Int32).toNatClampNeg 90) (1 : Int32).toNatClampNeg 66) (2 : Int32).toNatClampNeg 67) (3 : Int32).toNatClampNeg 83) (4 : Int32).toNatClampNeg 73) (5 : Int32).toNatClampNeg 74) (6 : Int32).toNatClampNeg 70) (7 : Int32).toNatClampNeg 68)))] H := hP
  have hD : va_D A [(q_1, .inl (gI g, 9, .inl (upd (upd (upd (upd (upd (upd (upd (upd (fun _ => 0) (0 : Int32).toNatClampNeg 90) (1 : Int32).toNatClampNeg 66) (2 : Int32).toNatClampNeg 67) (3 : Int32).toNatClampNeg 83) (4 : Int32).toNatClampNeg 73) (5 : Int32).toNatClampNeg 74) (6 : Int32).toNatClampNeg 70) (7 : Int32).toNatClampNeg 68)))] := hD
  refine lv_dup hx hb d_M_sign_46 rfl ?_
  refine lv_bipush (v := 8) hx hb d_M_sign_47 (by decide) ?_
  refine lv_bipush (v := 86) hx hb d_M_sign_49 (by decide) ?_
  refine va_iast hx hb hK hP hD hS 0 0 rfl rfl (vp_in_nI (n := 8) (N := 9) (by decide) (by decide)) d_M_sign_51 (fun H locs hP hD hS => ?_)
  have hP : va_P (gD g) classes [(q_1, .inl (gI g, 9, .inl (upd (upd (upd (upd (upd (upd (upd (upd (upd (fun _ => 0) (0 : Int32).toNatClampNeg 90) (1 : Int32).toNatClampNeg 66) (2 : Int32).toNatClampNeg 67) (3 : Int32).toNatClampNeg 83) (4 : Int32).toNatClampNeg 73) (5 : Int32).toNatClampNeg 74) (6 : Int32).toNatClampNeg 70) (7 : Int32).toNatClampNeg 68) (8 : Int32).toNatClampNeg 86)))] H := hP
  have hD : va_D A [(q_1, .inl (gI g, 9, .inl (upd (upd (upd (upd (upd (upd (upd (upd (upd (fun _ => 0) (0 : Int32).toNatClampNeg 90) (1 : Int32).toNatClampNeg 66) (2 : Int32).toNatClampNeg 67) (3 : Int32).toNatClampNeg 83) (4 : Int32).toNatClampNeg 73) (5 : Int32).toNatClampNeg 74) (6 : Int32).toNatClampNeg 70) (7 : Int32).toNatClampNeg 68) (8 : Int32).toNatClampNeg 86)))] := hD
  refine lv_astore_n (lv' := [(1, .ref q_1), (0, .int t)]) hx hb d_M_sign_52 rfl hl (by decide) rfl (fun ls hl => ?_)
  refine lv_aload_n hx hb d_M_sign_53 rfl (lv_at hl 0 rfl) ?_
  refine lv_iload_n hx hb d_M_sign_54 rfl (lv_at hl 1 rfl) ?_
  refine va_iald hx hb hK hP 0 0 rfl rfl ht d_M_sign_55 ?_
  exact ret_i hx hb hr hlk (hP.sub (ws' := []) [] rfl) (hD.sub (ws' := []) [] rfl rfl) hS (nar_i _) ⟨by rw [f_M_sign], rfl⟩ (by first | exact Nat.le_of_ble_eq_true rfl | (dsimp only; omega) | omega) (by first | exact Nat.le_of_ble_eq_true rfl | (dsimp only; omega) | omega) d_M_sign_56
def f_M_plainModifiers (t : Int32) : Int32 := (if 9 ≤ t then ((upd (upd (upd (upd (upd (upd (upd (upd (upd (upd (upd (upd (upd (upd (upd (upd (fun _ => 0) (0 : Int32).toNatClampNeg 1) (1 : Int32).toNatClampNeg 1537) (2 : Int32).toNatClampNeg 17) (3 : Int32).toNatClampNeg 1544) (4 : Int32).toNatClampNeg 1544) (5 : Int32).toNatClampNeg 24) (6 : Int32).toNatClampNeg 24) (7 : Int32).toNatClampNeg 16392) (8 : Int32).toNatClampNeg 16400) (9 : Int32).toNatClampNeg 2) (10 : Int32).toNatClampNeg 4) (11 : Int32).toNatClampNeg 9736) (12 : Int32).toNatClampNeg 1032) (13 : Int32).toNatClampNeg 8) (14 : Int32).toNatClampNeg 0) (15 : Int32).toNatClampNeg 0) ((t - 9) : Int32).toNatClampNeg) else 1041)
set_option maxRecDepth 100000 in
theorem k_M_plainModifiers : ck y_M_plainModifiers b_M_plainModifiers 2 (some .int) 1 (.static y_M_plainModifiers) := ⟨tk_of (List.mem_of_getElem? (i := 800) rfl) rfl, tk_of (List.mem_of_getElem? (i := 799) (by decide +kernel)) rfl, tk_of (List.mem_of_getElem? (i := 43) (by decide +kernel)) rfl, by decide +kernel⟩
set_option maxHeartbeats 4000000 in
set_option maxRecDepth 100000 in
theorem c_M_plainModifiers (g : gT) (l : Launch) (sz : Nat) (t : Int32) (ht : ¬ t < 0) (ht2 : t < 25) : Mg g l y_M_plainModifiers b_M_plainModifiers 2 (some .int) 0 0 1 16 [.int t] [] sz (qI g (fun r w1 => r = f_M_plainModifiers t ∧ w1 = [])) := by
  refine mg_of (by decide) (Nat.le_of_ble_eq_true rfl) ?_
  intro p e s m below meth c ls A hx hb hF hr hlk hnm hA G hP hD hS hl
  have hK := G.2.1
  have hN := G.1
  have hl : lv_has ls 2 [(0, .int t)] := hl
  refine lv_iload_n hx hb d_M_plainModifiers_0 rfl (lv_at hl 0 rfl) ?_
  refine lv_bipush (v := 9) hx hb d_M_plainModifiers_1 (by decide) ?_
  refine lv_icmp_ge (tgt := 10) hx hb d_M_plainModifiers_3 (by decide) (fun c_1 => ?_) (fun c_1 => ?_)
  · skip
    refine lv_bipush (v := 16) hx hb d_M_plainModifiers_10 (by decide) ?_
    refine va_newa (atype := .int) (D := gD g) (cl := classes) (tys := gTy g) hx hb (hF.2.2.2.2 _ ac_int) (ty := .int) rfl hK hP hD hS hA (N' := 16) (a0 := (16, .inl (fun _ => 0))) (fun _ => rfl) (by decide) (by decide) (by decide) (by first | omega | decide) (by first | omega | decide) d_M_plainModifiers_12 (fun q_2 cA H hK2 hP hD hS => ?_)
    obtain rfl := cA_int hK2
    have hP : va_P (gD g) classes [(q_2, .inl (gI g, 16, .inl (fun _ => 0)))] H := hP
    have hD : va_D A [(q_2, .inl (gI g, 16, .inl (fun _ => 0)))] := hD
    refine lv_dup hx hb d_M_plainModifiers_14 rfl ?_
    refine lv_iconst (v := 0) hx hb d_M_plainModifiers_15 (by decide) ?_
    refine lv_iconst (v := 1) hx hb d_M_plainModifiers_16 (by decide) ?_
    refine va_iast hx hb hK hP hD hS 0 0 rfl rfl (vp_in_nI (n := 0) (N := 16) (by decide) (by decide)) d_M_plainModifiers_17 (fun H locs hP hD hS => ?_)
    have hP : va_P (gD g) classes [(q_2, .inl (gI g, 16, .inl (upd (fun _ => 0) (0 : Int32).toNatClampNeg 1)))] H := hP
    have hD : va_D A [(q_2, .inl (gI g, 16, .inl (upd (fun _ => 0) (0 : Int32).toNatClampNeg 1)))] := hD
    refine lv_dup hx hb d_M_plainModifiers_18 rfl ?_
    refine lv_iconst (v := 1) hx hb d_M_plainModifiers_19 (by decide) ?_
    refine lv_sipush (v := 1537) hx hb d_M_plainModifiers_20 (by decide) ?_
    refine va_iast hx hb hK hP hD hS 0 0 rfl rfl (vp_in_nI (n := 1) (N := 16) (by decide) (by decide)) d_M_plainModifiers_23 (fun H locs hP hD hS => ?_)
    have hP : va_P (gD g) classes [(q_2, .inl (gI g, 16, .inl (upd (upd (fun _ => 0) (0 : Int32).toNatClampNeg 1) (1 : Int32).toNatClampNeg 1537)))] H := hP
    have hD : va_D A [(q_2, .inl (gI g, 16, .inl (upd (upd (fun _ => 0) (0 : Int32).toNatClampNeg 1) (1 : Int32).toNatClampNeg 1537)))] := hD
    refine lv_dup hx hb d_M_plainModifiers_24 rfl ?_
    refine lv_iconst (v := 2) hx hb d_M_plainModifiers_25 (by decide) ?_
    refine lv_bipush (v := 17) hx hb d_M_plainModifiers_26 (by decide) ?_
    refine va_iast hx hb hK hP hD hS 0 0 rfl rfl (vp_in_nI (n := 2) (N := 16) (by decide) (by decide)) d_M_plainModifiers_28 (fun H locs hP hD hS => ?_)
    have hP : va_P (gD g) classes [(q_2, .inl (gI g, 16, .inl (upd (upd (upd (fun _ => 0) (0 : Int32).toNatClampNeg 1) (1 : Int32).toNatClampNeg 1537) (2 : Int32).toNatClampNeg 17)))] H := hP
    have hD : va_D A [(q_2, .inl (gI g, 16, .inl (upd (upd (upd (fun _ => 0) (0 : Int32).toNatClampNeg 1) (1 : Int32).toNatClampNeg 1537) (2 : Int32).toNatClampNeg 17)))] := hD
    refine lv_dup hx hb d_M_plainModifiers_29 rfl ?_
    refine lv_iconst (v := 3) hx hb d_M_plainModifiers_30 (by decide) ?_
    refine lv_sipush (v := 1544) hx hb d_M_plainModifiers_31 (by decide) ?_
    refine va_iast hx hb hK hP hD hS 0 0 rfl rfl (vp_in_nI (n := 3) (N := 16) (by decide) (by decide)) d_M_plainModifiers_34 (fun H locs hP hD hS => ?_)
    have hP : va_P (gD g) classes [(q_2, .inl (gI g, 16, .inl (upd (upd (upd (upd (fun _ => 0) (0 : Int32).toNatClampNeg 1) (1 : Int32).toNatClampNeg 1537) (2 : Int32).toNatClampNeg 17) (3 : Int32).toNatClampNeg 1544)))] H := hP
    have hD : va_D A [(q_2, .inl (gI g, 16, .inl (upd (upd (upd (upd (fun _ => 0) (0 : Int32).toNatClampNeg 1) (1 : Int32).toNatClampNeg 1537) (2 : Int32).toNatClampNeg 17) (3 : Int32).toNatClampNeg 1544)))] := hD
    refine lv_dup hx hb d_M_plainModifiers_35 rfl ?_
    refine lv_iconst (v := 4) hx hb d_M_plainModifiers_36 (by decide) ?_
    refine lv_sipush (v := 1544) hx hb d_M_plainModifiers_37 (by decide) ?_
    refine va_iast hx hb hK hP hD hS 0 0 rfl rfl (vp_in_nI (n := 4) (N := 16) (by decide) (by decide)) d_M_plainModifiers_40 (fun H locs hP hD hS => ?_)
    have hP : va_P (gD g) classes [(q_2, .inl (gI g, 16, .inl (upd (upd (upd (upd (upd (fun _ => 0) (0 : Int32).toNatClampNeg 1) (1 : Int32).toNatClampNeg 1537) (2 : Int32).toNatClampNeg 17) (3 : Int32).toNatClampNeg 1544) (4 : Int32).toNatClampNeg 1544)))] H := hP
    have hD : va_D A [(q_2, .inl (gI g, 16, .inl (upd (upd (upd (upd (upd (fun _ => 0) (0 : Int32).toNatClampNeg 1) (1 : Int32).toNatClampNeg 1537) (2 : Int32).toNatClampNeg 17) (3 : Int32).toNatClampNeg 1544) (4 : Int32).toNatClampNeg 1544)))] := hD
    refine lv_dup hx hb d_M_plainModifiers_41 rfl ?_
    refine lv_iconst (v := 5) hx hb d_M_plainModifiers_42 (by decide) ?_
    refine lv_bipush (v := 24) hx hb d_M_plainModifiers_43 (by decide) ?_
    refine va_iast hx hb hK hP hD hS 0 0 rfl rfl (vp_in_nI (n := 5) (N := 16) (by decide) (by decide)) d_M_plainModifiers_45 (fun H locs hP hD hS => ?_)
    have hP : va_P (gD g) classes [(q_2, .inl (gI g, 16, .inl (upd (upd (upd (upd (upd (upd (fun _ => 0) (0 : Int32).toNatClampNeg 1) (1 : Int32).toNatClampNeg 1537) (2 : Int32).toNatClampNeg 17) (3 : Int32).toNatClampNeg 1544) (4 : Int32).toNatClampNeg 1544) (5 : Int32).toNatClampNeg 24)))] H := hP
    have hD : va_D A [(q_2, .inl (gI g, 16, .inl (upd (upd (upd (upd (upd (upd (fun _ => 0) (0 : Int32).toNatClampNeg 1) (1 : Int32).toNatClampNeg 1537) (2 : Int32).toNatClampNeg 17) (3 : Int32).toNatClampNeg 1544) (4 : Int32).toNatClampNeg 1544) (5 : Int32).toNatClampNeg 24)))] := hD
    refine lv_dup hx hb d_M_plainModifiers_46 rfl ?_
    refine lv_bipush (v := 6) hx hb d_M_plainModifiers_47 (by decide) ?_
    refine lv_bipush (v := 24) hx hb d_M_plainModifiers_49 (by decide) ?_
    refine va_iast hx hb hK hP hD hS 0 0 rfl rfl (vp_in_nI (n := 6) (N := 16) (by decide) (by decide)) d_M_plainModifiers_51 (fun H locs hP hD hS => ?_)
    have hP : va_P (gD g) classes [(q_2, .inl (gI g, 16, .inl (upd (upd (upd (upd (upd (upd (upd (fun _ => 0) (0 : Int32).toNatClampNeg 1) (1 : Int32).toNatClampNeg 1537) (2 : Int32).toNatClampNeg 17) (3 : Int32).toNatClampNeg 1544) (4 : Int32).toNatClampNeg 1544) (5 : Int32).toNatClampNeg 24) (6 : Int32).toNatClampNeg 24)))] H := hP
    have hD : va_D A [(q_2, .inl (gI g, 16, .inl (upd (upd (upd (upd (upd (upd (upd (fun _ => 0) (0 : Int32).toNatClampNeg 1) (1 : Int32).toNatClampNeg 1537) (2 : Int32).toNatClampNeg 17) (3 : Int32).toNatClampNeg 1544) (4 : Int32).toNatClampNeg 1544) (5 : Int32).toNatClampNeg 24) (6 : Int32).toNatClampNeg 24)))] := hD
    refine lv_dup hx hb d_M_plainModifiers_52 rfl ?_
    refine lv_bipush (v := 7) hx hb d_M_plainModifiers_53 (by decide) ?_
    refine lv_sipush (v := 16392) hx hb d_M_plainModifiers_55 (by decide) ?_
    refine va_iast hx hb hK hP hD hS 0 0 rfl rfl (vp_in_nI (n := 7) (N := 16) (by decide) (by decide)) d_M_plainModifiers_58 (fun H locs hP hD hS => ?_)
    have hP : va_P (gD g) classes [(q_2, .inl (gI g, 16, .inl (upd (upd (upd (upd (upd (upd (upd (upd (fun _ => 0) (0 : Int32).toNatClampNeg 1) (1 : Int32).toNatClampNeg 1537) (2 : Int32).toNatClampNeg 17) (3 : Int32).toNatClampNeg 1544) (4 : Int32).toNatClampNeg 1544) (5 : Int32).toNatClampNeg 24) (6 : Int32).toNatClampNeg 24) (7 : Int32).toNatClampNeg 16392)))] H := hP
    have hD : va_D A [(q_2, .inl (gI g, 16, .inl (upd (upd (upd (upd (upd (upd (upd (upd (fun _ => 0) (0 : Int32).toNatClampNeg 1) (1 : Int32).toNatClampNeg 1537) (2 : Int32).toNatClampNeg 17) (3 : Int32).toNatClampNeg 1544) (4 : Int32).toNatClampNeg 1544) (5 : Int32).toNatClampNeg 24) (6 : Int32).toNatClampNeg 24) (7 : Int32).toNatClampNeg 16392)))] := hD
    refine lv_dup hx hb d_M_plainModifiers_59 rfl ?_
    refine lv_bipush (v := 8) hx hb d_M_plainModifiers_60 (by decide) ?_
    refine lv_sipush (v := 16400) hx hb d_M_plainModifiers_62 (by decide) ?_
    refine va_iast hx hb hK hP hD hS 0 0 rfl rfl (vp_in_nI (n := 8) (N := 16) (by decide) (by decide)) d_M_plainModifiers_65 (fun H locs hP hD hS => ?_)
    have hP : va_P (gD g) classes [(q_2, .inl (gI g, 16, .inl (upd (upd (upd (upd (upd (upd (upd (upd (upd (fun _ => 0) (0 : Int32).toNatClampNeg 1) (1 : Int32).toNatClampNeg 1537) (2 : Int32).toNatClampNeg 17) (3 : Int32).toNatClampNeg 1544) (4 : Int32).toNatClampNeg 1544) (5 : Int32).toNatClampNeg 24) (6 : Int32).toNatClampNeg 24) (7 : Int32).toNatClampNeg 16392) (8 : Int32).toNatClampNeg 16400)))] H := hP
    have hD : va_D A [(q_2, .inl (gI g, 16, .inl (upd (upd (upd (upd (upd (upd (upd (upd (upd (fun _ => 0) (0 : Int32).toNatClampNeg 1) (1 : Int32).toNatClampNeg 1537) (2 : Int32).toNatClampNeg 17) (3 : Int32).toNatClampNeg 1544) (4 : Int32).toNatClampNeg 1544) (5 : Int32).toNatClampNeg 24) (6 : Int32).toNatClampNeg 24) (7 : Int32).toNatClampNeg 16392) (8 : Int32).toNatClampNeg 16400)))] := hD
    refine lv_dup hx hb d_M_plainModifiers_66 rfl ?_
    refine lv_bipush (v := 9) hx hb d_M_plainModifiers_67 (by decide) ?_
    refine lv_iconst (v := 2) hx hb d_M_plainModifiers_69 (by decide) ?_
    refine va_iast hx hb hK hP hD hS 0 0 rfl rfl (vp_in_nI (n := 9) (N := 16) (by decide) (by decide)) d_M_plainModifiers_70 (fun H locs hP hD hS => ?_)
    have hP : va_P (gD g) classes [(q_2, .inl (gI g, 16, .inl (upd (upd (upd (upd (upd (upd (upd (upd (upd (upd (fun _ => 0) (0 : Int32).toNatClampNeg 1) (1 : Int32).toNatClampNeg 1537) (2 : Int32).toNatClampNeg 17) (3 : Int32).toNatClampNeg 1544) (4 : Int32).toNatClampNeg 1544) (5 : Int32).toNatClampNeg 24) (6 : Int32).toNatClampNeg 24) (7 : Int32).toNatClampNeg 16392) (8 : Int32).toNatClampNeg 16400) (9 : Int32).toNatClampNeg 2)))] H := hP
    have hD : va_D A [(q_2, .inl (gI g, 16, .inl (upd (upd (upd (upd (upd (upd (upd (upd (upd (upd (fun _ => 0) (0 : Int32).toNatClampNeg 1) (1 : Int32).toNatClampNeg 1537) (2 : Int32).toNatClampNeg 17) (3 : Int32).toNatClampNeg 1544) (4 : Int32).toNatClampNeg 1544) (5 : Int32).toNatClampNeg 24) (6 : Int32).toNatClampNeg 24) (7 : Int32).toNatClampNeg 16392) (8 : Int32).toNatClampNeg 16400) (9 : Int32).toNatClampNeg 2)))] := hD
    refine lv_dup hx hb d_M_plainModifiers_71 rfl ?_
    refine lv_bipush (v := 10) hx hb d_M_plainModifiers_72 (by decide) ?_
    refine lv_iconst (v := 4) hx hb d_M_plainModifiers_74 (by decide) ?_
    refine va_iast hx hb hK hP hD hS 0 0 rfl rfl (vp_in_nI (n := 10) (N := 16) (by decide) (by decide)) d_M_plainModifiers_75 (fun H locs hP hD hS => ?_)
    have hP : va_P (gD g) classes [(q_2, .inl (gI g, 16, .inl (upd (upd (upd (upd (upd (upd (upd (upd (upd (upd (upd (fun _ => 0) (0 : Int32).toNatClampNeg 1) (1 : Int32).toNatClampNeg 1537) (2 : Int32).toNatClampNeg 17) (3 : Int32).toNatClampNeg 1544) (4 : Int32).toNatClampNeg 1544) (5 : Int32).toNatClampNeg 24) (6 : Int32).toNatClampNeg 24) (7 : Int32).toNatClampNeg 16392) (8 : Int32).toNatClampNeg 16400) (9 : Int32).toNatClampNeg 2) (10 : Int32).toNatClampNeg 4)))] H := hP
    have hD : va_D A [(q_2, .inl (gI g, 16, .inl (upd (upd (upd (upd (upd (upd (upd (upd (upd (upd (upd (fun _ => 0) (0 : Int32).toNatClampNeg 1) (1 : Int32).toNatClampNeg 1537) (2 : Int32).toNatClampNeg 17) (3 : Int32).toNatClampNeg 1544) (4 : Int32).toNatClampNeg 1544) (5 : Int32).toNatClampNeg 24) (6 : Int32).toNatClampNeg 24) (7 : Int32).toNatClampNeg 16392) (8 : Int32).toNatClampNeg 16400) (9 : Int32).toNatClampNeg 2) (10 : Int32).toNatClampNeg 4)))] := hD
    refine lv_dup hx hb d_M_plainModifiers_76 rfl ?_
    refine lv_bipush (v := 11) hx hb d_M_plainModifiers_77 (by decide) ?_
    refine lv_sipush (v := 9736) hx hb d_M_plainModifiers_79 (by decide) ?_
    refine va_iast hx hb hK hP hD hS 0 0 rfl rfl (vp_in_nI (n := 11) (N := 16) (by decide) (by decide)) d_M_plainModifiers_82 (fun H locs hP hD hS => ?_)
    have hP : va_P (gD g) classes [(q_2, .inl (gI g, 16, .inl (upd (upd (upd (upd (upd (upd (upd (upd (upd (upd (upd (upd (fun _ => 0) (0 : Int32).toNatClampNeg 1) (1 : Int32).toNatClampNeg 1537) (2 : Int32).toNatClampNeg 17) (3 : Int32).toNatClampNeg 1544) (4 : Int32).toNatClampNeg 1544) (5 : Int32).toNatClampNeg 24) (6 : Int32).toNatClampNeg 24) (7 : Int32).toNatClampNeg 16392) (8 : Int32).toNatClampNeg 16400) (9 : Int32).toNatClampNeg 2) (10 : Int32).toNatClampNeg 4) (11 : Int32).toNatClampNeg 9736)))] H := hP
    have hD : va_D A [(q_2, .inl (gI g, 16, .inl (upd (upd (upd (upd (upd (upd (upd (upd (upd (upd (upd (upd (fun _ => 0) (0 : Int32).toNatClampNeg 1) (1 : Int32).toNatClampNeg 1537) (2 : Int32).toNatClampNeg 17) (3 : Int32).toNatClampNeg 1544) (4 : Int32).toNatClampNeg 1544) (5 : Int32).toNatClampNeg 24) (6 : Int32).toNatClampNeg 24) (7 : Int32).toNatClampNeg 16392) (8 : Int32).toNatClampNeg 16400) (9 : Int32).toNatClampNeg 2) (10 : Int32).toNatClampNeg 4) (11 : Int32).toNatClampNeg 9736)))] := hD
    refine lv_dup hx hb d_M_plainModifiers_83 rfl ?_
    refine lv_bipush (v := 12) hx hb d_M_plainModifiers_84 (by decide) ?_
    refine lv_sipush (v := 1032) hx hb d_M_plainModifiers_86 (by decide) ?_
    refine va_iast hx hb hK hP hD hS 0 0 rfl rfl (vp_in_nI (n := 12) (N := 16) (by decide) (by decide)) d_M_plainModifiers_89 (fun H locs hP hD hS => ?_)
    have hP : va_P (gD g) classes [(q_2, .inl (gI g, 16, .inl (upd (upd (upd (upd (upd (upd (upd (upd (upd (upd (upd (upd (upd (fun _ => 0) (0 : Int32).toNatClampNeg 1) (1 : Int32).toNatClampNeg 1537) (2 : Int32).toNatClampNeg 17) (3 : Int32).toNatClampNeg 1544) (4 : Int32).toNatClampNeg 1544) (5 : Int32).toNatClampNeg 24) (6 : Int32).toNatClampNeg 24) (7 : Int32).toNatClampNeg 16392) (8 : Int32).toNatClampNeg 16400) (9 : Int32).toNatClampNeg 2) (10 : Int32).toNatClampNeg 4) (11 : Int32).toNatClampNeg 9736) (12 : Int32).toNatClampNeg 1032)))] H := hP
    have hD : va_D A [(q_2, .inl (gI g, 16, .inl (upd (upd (upd (upd (upd (upd (upd (upd (upd (upd (upd (upd (upd (fun _ => 0) (0 : Int32).toNatClampNeg 1) (1 : Int32).toNatClampNeg 1537) (2 : Int32).toNatClampNeg 17) (3 : Int32).toNatClampNeg 1544) (4 : Int32).toNatClampNeg 1544) (5 : Int32).toNatClampNeg 24) (6 : Int32).toNatClampNeg 24) (7 : Int32).toNatClampNeg 16392) (8 : Int32).toNatClampNeg 16400) (9 : Int32).toNatClampNeg 2) (10 : Int32).toNatClampNeg 4) (11 : Int32).toNatClampNeg 9736) (12 : Int32).toNatClampNeg 1032)))] := hD
    refine lv_dup hx hb d_M_plainModifiers_90 rfl ?_
    refine lv_bipush (v := 13) hx hb d_M_plainModifiers_91 (by decide) ?_
    refine lv_bipush (v := 8) hx hb d_M_plainModifiers_93 (by decide) ?_
    refine va_iast hx hb hK hP hD hS 0 0 rfl rfl (vp_in_nI (n := 13) (N := 16) (by decide) (by decide)) d_M_plainModifiers_95 (fun H locs hP hD hS => ?_)
    have hP : va_P (gD g) classes [(q_2, .inl (gI g, 16, .inl (upd (upd (upd (upd (upd (upd (upd (upd (upd (upd (upd (upd (upd (upd (fun _ => 0) (0 : Int32).toNatClampNeg 1) (1 : Int32).toNatClampNeg 1537) (2 : Int32).toNatClampNeg 17) (3 : Int32).toNatClampNeg 1544) (4 : Int32).toNatClampNeg 1544) (5 : Int32).toNatClampNeg 24) (6 : Int32).toNatClampNeg 24) (7 : Int32).toNatClampNeg 16392) (8 : Int32).toNatClampNeg 16400) (9 : Int32).toNatClampNeg 2) (10 : Int32).toNatClampNeg 4) (11 : Int32).toNatClampNeg 9736) (12 : Int32).toNatClampNeg 1032) (13 : Int32).toNatClampNeg 8)))] H := hP
    have hD : va_D A [(q_2, .inl (gI g, 16, .inl (upd (upd (upd (upd (upd (upd (upd (upd (upd (upd (upd (upd (upd (upd (fun _ => 0) (0 : Int32).toNatClampNeg 1) (1 : Int32).toNatClampNeg 1537) (2 : Int32).toNatClampNeg 17) (3 : Int32).toNatClampNeg 1544) (4 : Int32).toNatClampNeg 1544) (5 : Int32).toNatClampNeg 24) (6 : Int32).toNatClampNeg 24) (7 : Int32).toNatClampNeg 16392) (8 : Int32).toNatClampNeg 16400) (9 : Int32).toNatClampNeg 2) (10 : Int32).toNatClampNeg 4) (11 : Int32).toNatClampNeg 9736) (12 : Int32).toNatClampNeg 1032) (13 : Int32).toNatClampNeg 8)))] := hD
    refine lv_dup hx hb d_M_plainModifiers_96 rfl ?_
    refine lv_bipush (v := 14) hx hb d_M_plainModifiers_97 (by decide) ?_
    refine lv_iconst (v := 0) hx hb d_M_plainModifiers_99 (by decide) ?_
    refine va_iast hx hb hK hP hD hS 0 0 rfl rfl (vp_in_nI (n := 14) (N := 16) (by decide) (by decide)) d_M_plainModifiers_100 (fun H locs hP hD hS => ?_)
    have hP : va_P (gD g) classes [(q_2, .inl (gI g, 16, .inl (upd (upd (upd (upd (upd (upd (upd (upd (upd (upd (upd (upd (upd (upd (upd (fun _ => 0) (0 : Int32).toNatClampNeg 1) (1 : Int32).toNatClampNeg 1537) (2 : Int32).toNatClampNeg 17) (3 : Int32).toNatClampNeg 1544) (4 : Int32).toNatClampNeg 1544) (5 : Int32).toNatClampNeg 24) (6 : Int32).toNatClampNeg 24) (7 : Int32).toNatClampNeg 16392) (8 : Int32).toNatClampNeg 16400) (9 : Int32).toNatClampNeg 2) (10 : Int32).toNatClampNeg 4) (11 : Int32).toNatClampNeg 9736) (12 : Int32).toNatClampNeg 1032) (13 : Int32).toNatClampNeg 8) (14 : Int32).toNatClampNeg 0)))] H := hP
    have hD : va_D A [(q_2, .inl (gI g, 16, .inl (upd (upd (upd (upd (upd (upd (upd (upd (upd (upd (upd (upd (upd (upd (upd (fun _ => 0) (0 : Int32).toNatClampNeg 1) (1 : Int32).toNatClampNeg 1537) (2 : Int32).toNatClampNeg 17) (3 : Int32).toNatClampNeg 1544) (4 : Int32).toNatClampNeg 1544) (5 : Int32).toNatClampNeg 24) (6 : Int32).toNatClampNeg 24) (7 : Int32).toNatClampNeg 16392) (8 : Int32).toNatClampNeg 16400) (9 : Int32).toNatClampNeg 2) (10 : Int32).toNatClampNeg 4) (11 : Int32).toNatClampNeg 9736) (12 : Int32).toNatClampNeg 1032) (13 : Int32).toNatClampNeg 8) (14 : Int32).toNatClampNeg 0)))] := hD
    refine lv_dup hx hb d_M_plainModifiers_101 rfl ?_
    refine lv_bipush (v := 15) hx hb d_M_plainModifiers_102 (by decide) ?_
    refine lv_iconst (v := 0) hx hb d_M_plainModifiers_104 (by decide) ?_
    refine va_iast hx hb hK hP hD hS 0 0 rfl rfl (vp_in_nI (n := 15) (N := 16) (by decide) (by decide)) d_M_plainModifiers_105 (fun H locs hP hD hS => ?_)
    have hP : va_P (gD g) classes [(q_2, .inl (gI g, 16, .inl (upd (upd (upd (upd (upd (upd (upd (upd (upd (upd (upd (upd (upd (upd (upd (upd (fun _ => 0) (0 : Int32).toNatClampNeg 1) (1 : Int32).toNatClampNeg 1537) (2 : Int32).toNatClampNeg 17) (3 : Int32).toNatClampNeg 1544) (4 : Int32).toNatClampNeg 1544) (5 : Int32).toNatClampNeg 24) (6 : Int32).toNatClampNeg 24) (7 : Int32).toNatClampNeg 16392) (8 : Int32).toNatClampNeg 16400) (9 : Int32).toNatClampNeg 2) (10 : Int32).toNatClampNeg 4) (11 : Int32).toNatClampNeg 9736) (12 : Int32).toNatClampNeg 1032) (13 : Int32).toNatClampNeg 8) (14 : Int32).toNatClampNeg 0) (15 : Int32).toNatClampNeg 0)))] H := hP
    have hD : va_D A [(q_2, .inl (gI g, 16, .inl (upd (upd (upd (upd (upd (upd (upd (upd (upd (upd (upd (upd (upd (upd (upd (upd (fun _ => 0) (0 : Int32).toNatClampNeg 1) (1 : Int32).toNatClampNeg 1537) (2 : Int32).toNatClampNeg 17) (3 : Int32).toNatClampNeg 1544) (4 : Int32).toNatClampNeg 1544) (5 : Int32).toNatClampNeg 24) (6 : Int32).toNatClampNeg 24) (7 : Int32).toNatClampNeg 16392) (8 : Int32).toNatClampNeg 16400) (9 : Int32).toNatClampNeg 2) (10 : Int32).toNatClampNeg 4) (11 : Int32).toNatClampNeg 9736) (12 : Int32).toNatClampNeg 1032) (13 : Int32).toNatClampNeg 8) (14 : Int32).toNatClampNeg 0) (15 : Int32).toNatClampNeg 0)))] := hD
    refine lv_astore_n (lv' := [(1, .ref q_2), (0, .int t)]) hx hb d_M_plainModifiers_106 rfl hl (by decide) rfl (fun ls hl => ?_)
    refine lv_aload_n hx hb d_M_plainModifiers_107 rfl (lv_at hl 0 rfl) ?_
    refine lv_iload_n hx hb d_M_plainModifiers_108 rfl (lv_at hl 1 rfl) ?_
    refine lv_bipush (v := 9) hx hb d_M_plainModifiers_109 (by decide) ?_
    refine lv_isub hx hb d_M_plainModifiers_111 ?_
    refine va_iald hx hb hK hP 0 0 rfl rfl (m_pm c_1 ht2) d_M_plainModifiers_112 ?_
    exact ret_i hx hb hr hlk (hP.sub (ws' := []) [] rfl) (hD.sub (ws' := []) [] rfl rfl) hS (nar_i _) ⟨by rw [f_M_plainModifiers, if_pos c_1], rfl⟩ (by first | exact Nat.le_of_ble_eq_true rfl | (dsimp only; omega) | omega) (by first | exact Nat.le_of_ble_eq_true rfl | (dsimp only; omega) | omega) d_M_plainModifiers_113
  · skip
    refine lv_sipush (v := 1041) hx hb d_M_plainModifiers_6 (by decide) ?_
    exact ret_i hx hb hr hlk (hP.sub (ws' := []) [] rfl) (hD.sub (ws' := []) [] rfl rfl) hS (nar_i _) ⟨by rw [f_M_plainModifiers, if_neg c_1], rfl⟩ (by first | exact Nat.le_of_ble_eq_true rfl | (dsimp only; omega) | omega) (by first | exact Nat.le_of_ble_eq_true rfl | (dsimp only; omega) | omega) d_M_plainModifiers_9
def f_M_modifiers (t : Int32) : Int32 := (if t < 40 then (f_M_plainModifiers t) else (1040 + ((f_M_plainModifiers (f_M_plain t)) &&& 7)))
set_option maxRecDepth 100000 in
theorem k_M_modifiers : ck y_M_modifiers b_M_modifiers 2 (some .int) 1 (.instanceMethod y_M_modifiers) := ⟨tk_of (List.mem_of_getElem? (i := 797) rfl) rfl, tk_of (List.mem_of_getElem? (i := 796) (by decide +kernel)) rfl, tk_of (List.mem_of_getElem? (i := 43) (by decide +kernel)) rfl, by decide +kernel⟩
theorem j_M_177 : Cond.methodLink R_M 177 y_M_plainModifiers ∈ tk := tk_of (List.mem_of_getElem? (i := 798) (by decide +kernel)) rfl
theorem j_M_141 : Cond.methodLink R_M 141 y_M_plain ∈ tk := tk_of (List.mem_of_getElem? (i := 706) (by decide +kernel)) rfl
set_option maxHeartbeats 4000000 in
set_option maxRecDepth 100000 in
theorem c_M_modifiers (g : gT) (l : Launch) (sz : Nat) (h0 : Nat) (t : Int32) (j : Nat) (hj : j < 120) (ej : t = nI j) (hty : ¬ f_M_isType t = 0) : Mg g l y_M_modifiers b_M_modifiers 2 (some .int) 1 21 1 16 [.ref h0, .int t] [] sz (qI g (fun r w1 => r = f_M_modifiers t ∧ w1 = [])) := by
  refine mg_of (by decide) (Nat.le_of_ble_eq_true rfl) ?_
  intro p e s m below meth c ls A hx hb hF hr hlk hnm hA G hP hD hS hl
  have hK := G.2.1
  have hN := G.1
  have hl : lv_has ls 2 [(0, .ref h0), (1, .int t)] := hl
  refine lv_iload_n hx hb d_M_modifiers_0 rfl (lv_at hl 1 rfl) ?_
  refine lv_bipush (v := 40) hx hb d_M_modifiers_1 (by decide) ?_
  refine lv_icmp_lt (tgt := 21) hx hb d_M_modifiers_3 (by decide) (fun c_1 => ?_) (fun c_1 => ?_)
  · skip
    refine lv_iload_n hx hb d_M_modifiers_21 rfl (lv_at hl 1 rfl) ?_
    refine go_i (wr := []) (run_S hF (c_M_plainModifiers g l _ t (by rw [ej]; exact nI_pos (by omega)) (m_pl2 hj ej hty c_1)) k_M_plainModifiers j_M_177 (cw_down G hP hD hS hA [] rfl rfl) ⟨Nat.le_of_ble_eq_true rfl, Nat.le_of_ble_eq_true rfl⟩ rfl hl.1 (Nat.le_of_ble_eq_true rfl) d_M_modifiers_22 ⟨(by first | exact Nat.le_of_ble_eq_true rfl | (dsimp only; omega) | omega), (by first | exact Nat.le_of_ble_eq_true rfl | (dsimp only; omega) | omega)⟩) hP hD hS hA [] [] rfl rfl rfl (by decide) (fun r_2 w1 H locs hp hP hD hS => ?_)
    obtain ⟨rfl, rfl⟩ := hp
    have hP : va_P (gD g) classes [] H := hP
    have hD : va_D A [] := hD
    exact ret_i hx hb hr hlk (hP.sub (ws' := []) [] rfl) (hD.sub (ws' := []) [] rfl rfl) hS (nar_i _) ⟨by rw [f_M_modifiers, if_pos c_1], rfl⟩ (by first | exact Nat.le_of_ble_eq_true rfl | (dsimp only; omega) | omega) (by first | exact Nat.le_of_ble_eq_true rfl | (dsimp only; omega) | omega) d_M_modifiers_25
  · skip
    refine lv_sipush (v := 1040) hx hb d_M_modifiers_6 (by decide) ?_
    refine lv_iload_n hx hb d_M_modifiers_9 rfl (lv_at hl 1 rfl) ?_
    refine pm_callE hF hN (c_M_plain l t) k_M_plain j_M_141 ⟨Nat.le_of_ble_eq_true rfl, Nat.le_of_ble_eq_true rfl⟩ rfl hl.1 (Nat.le_of_ble_eq_true rfl) d_M_modifiers_10 ⟨by first | omega | exact Nat.zero_le _, by first | omega | exact Nat.zero_le _⟩ ?_
    refine go_i (wr := []) (run_S hF (c_M_plainModifiers g l _ (f_M_plain t) (m_pl0 hj ej) (m_plt hj ej hty)) k_M_plainModifiers j_M_177 (cw_down G hP hD hS hA [] rfl rfl) ⟨Nat.le_of_ble_eq_true rfl, Nat.le_of_ble_eq_true rfl⟩ rfl hl.1 (Nat.le_of_ble_eq_true rfl) d_M_modifiers_13 ⟨(by first | exact Nat.le_of_ble_eq_true rfl | (dsimp only; omega) | omega), (by first | exact Nat.le_of_ble_eq_true rfl | (dsimp only; omega) | omega)⟩) hP hD hS hA [] [] rfl rfl rfl (by decide) (fun r_4 w1 H locs hp hP hD hS => ?_)
    obtain ⟨rfl, rfl⟩ := hp
    have hP : va_P (gD g) classes [] H := hP
    have hD : va_D A [] := hD
    refine lv_bipush (v := 7) hx hb d_M_modifiers_16 (by decide) ?_
    refine lv_iand hx hb d_M_modifiers_18 ?_
    refine lv_iadd hx hb d_M_modifiers_19 ?_
    exact ret_i hx hb hr hlk (hP.sub (ws' := []) [] rfl) (hD.sub (ws' := []) [] rfl rfl) hS (nar_i _) ⟨by rw [f_M_modifiers, if_neg c_1], rfl⟩ (by first | exact Nat.le_of_ble_eq_true rfl | (dsimp only; omega) | omega) (by first | exact Nat.le_of_ble_eq_true rfl | (dsimp only; omega) | omega) d_M_modifiers_20
def f_M_number (t k : Int32) : Int32 := (if (f_M_isType t) = 0 then (-1) else (if (f_M_in k 0 7) = 0 then (-1) else (if k = 0 then (f_M_modifiers t) else (if k = 1 then (if 40 ≤ t then 2 else (if t = 15 then 2 else (if t = 14 then 1 else (if t = 20 then 1 else (if t = 21 then 1 else (if t = 23 then 1 else (if t = 24 then 1 else 0))))))) else (if k = 2 then (if t = 21 then 1 else 0) else (if k = 3 then (if t = 16 then 2 else (-2)) else (if k = 4 then (if t = 14 then 1 else (-2)) else (if k = 5 then (if t = 13 then 2 else (if t = 16 then 1 else (-2))) else (if k = 6 then (if t = 11 then 9 else (if t = 18 then 1 else 0)) else (if t = 9 then (-1) else (if t = 10 then (-1) else (if (f_M_in t 11 24) = 0 then 1 else 14))))))))))))
set_option maxRecDepth 100000 in
theorem k_M_number : ck y_M_number b_M_number 3 (some .int) 2 (.instanceMethod y_M_number) := ⟨tk_of (List.mem_of_getElem? (i := 822) rfl) rfl, tk_of (List.mem_of_getElem? (i := 820) (by decide +kernel)) rfl, tk_of (List.mem_of_getElem? (i := 43) (by decide +kernel)) rfl, by decide +kernel⟩
theorem j_M_116 : Cond.methodLink R_M 116 y_M_modifiers ∈ tk := tk_of (List.mem_of_getElem? (i := 794) (by decide +kernel)) rfl
theorem se_M_M_modifiers : Cond.selects R_M y_M_modifiers y_M_modifiers ∈ tk := tk_of (List.mem_of_getElem? (i := 30) (by decide +kernel)) rfl
set_option maxHeartbeats 4000000 in
set_option maxRecDepth 100000 in
theorem c_M_number (g : gT) (l : Launch) (sz : Nat) (h0 a1 a2 a3 a4 : Nat) (n1 n2 n3 : Int32) (t k : Int32) : Mg g l y_M_number b_M_number 3 (some .int) 2 42 1 16 [.ref h0, .int t, .int k] [(h0, .inr (4, [.ref a1, .int n1, .ref a2, .int n2, .ref a3, .ref a4, .int n3]))] sz (qI g (fun r w1 => r = f_M_number t k ∧ w1 = [(h0, .inr (4, [.ref a1, .int n1, .ref a2, .int n2, .ref a3, .ref a4, .int n3]))])) := by
  refine mg_of (by decide) (Nat.le_of_ble_eq_true rfl) ?_
  intro p e s m below meth c ls A hx hb hF hr hlk hnm hA G hP hD hS hl
  have hK := G.2.1
  have hN := G.1
  have hl : lv_has ls 3 [(0, .ref h0), (1, .int t), (2, .int k)] := hl
  refine lv_iload_n hx hb d_M_number_0 rfl (lv_at hl 1 rfl) ?_
  refine pm_callE hF hN (c_M_isType l t) k_M_isType j_M_167 ⟨Nat.le_of_ble_eq_true rfl, Nat.le_of_ble_eq_true rfl⟩ rfl hl.1 (Nat.le_of_ble_eq_true rfl) d_M_number_1 ⟨by first | omega | exact Nat.zero_le _, by first | omega | exact Nat.zero_le _⟩ ?_
  refine lv_if_eq (tgt := 17) hx hb d_M_number_4 (by decide) (fun c_2 => ?_) (fun c_2 => ?_)
  · skip
    refine lv_iconst (v := (-1)) hx hb d_M_number_17 (by decide) ?_
    exact ret_i hx hb hr hlk (hP.sub (ws' := [(h0, .inr (4, [.ref a1, .int n1, .ref a2, .int n2, .ref a3, .ref a4, .int n3]))]) [0] rfl) (hD.sub (ws' := [(h0, .inr (4, [.ref a1, .int n1, .ref a2, .int n2, .ref a3, .ref a4, .int n3]))]) [0] rfl rfl) hS (nar_i _) ⟨by rw [f_M_number, if_pos c_2], rfl⟩ (by first | exact Nat.le_of_ble_eq_true rfl | (dsimp only; omega) | omega) (by first | exact Nat.le_of_ble_eq_true rfl | (dsimp only; omega) | omega) d_M_number_18
  · skip
    refine lv_iload_n hx hb d_M_number_7 rfl (lv_at hl 2 rfl) ?_
    refine lv_iconst (v := 0) hx hb d_M_number_8 (by decide) ?_
    refine lv_bipush (v := 7) hx hb d_M_number_9 (by decide) ?_
    refine pm_callE hF hN (c_M_in l k 0 7) k_M_in j_M_26 ⟨Nat.le_of_ble_eq_true rfl, Nat.le_of_ble_eq_true rfl⟩ rfl hl.1 (Nat.le_of_ble_eq_true rfl) d_M_number_11 ⟨by first | omega | exact Nat.zero_le _, by first | omega | exact Nat.zero_le _⟩ ?_
    refine lv_if_ne (tgt := 19) hx hb d_M_number_14 (by decide) (fun c_4 => ?_) (fun c_4 => ?_)
    · skip
      refine lv_iload_n hx hb d_M_number_19 rfl (lv_at hl 2 rfl) ?_
      by_cases c_5 : k = 0
      · refine lv_tableIn (tgt := 64) (off := 44) hx hb d_M_number_20 (by rw [c_5]; decide) (by rw [c_5]; decide) (by rw [c_5]; decide) (by decide) ?_
        refine lv_aload_n hx hb d_M_number_64 rfl (lv_at hl 0 rfl) ?_
        refine lv_iload_n hx hb d_M_number_65 rfl (lv_at hl 1 rfl) ?_
        obtain ⟨j, hj, ej⟩ := isT_nI c_2
        refine go_i (wr := [(h0, .inr (4, [.ref a1, .int n1, .ref a2, .int n2, .ref a3, .ref a4, .int n3]))]) (run_V hF (c_M_modifiers g l _ h0 t j hj ej c_2) k_M_modifiers j_M_116 se_M_M_modifiers (va_recv hK hP (ci := 4) (q0 := 0) rfl rfl) (cw_down G hP hD hS hA [] rfl rfl) ⟨Nat.le_of_ble_eq_true rfl, Nat.le_of_ble_eq_true rfl⟩ rfl hl.1 (Nat.le_of_ble_eq_true rfl) d_M_number_66 ⟨(by first | exact Nat.le_of_ble_eq_true rfl | (dsimp only; omega) | omega), (by first | exact Nat.le_of_ble_eq_true rfl | (dsimp only; omega) | omega)⟩) hP hD hS hA [] [0] rfl rfl rfl (by decide) (fun r_6 w1 H locs hp hP hD hS => ?_)
        obtain ⟨rfl, rfl⟩ := hp
        have hP : va_P (gD g) classes [(h0, .inr (4, [.ref a1, .int n1, .ref a2, .int n2, .ref a3, .ref a4, .int n3]))] H := hP
        have hD : va_D A [(h0, .inr (4, [.ref a1, .int n1, .ref a2, .int n2, .ref a3, .ref a4, .int n3]))] := hD
        exact ret_i hx hb hr hlk (hP.sub (ws' := [(h0, .inr (4, [.ref a1, .int n1, .ref a2, .int n2, .ref a3, .ref a4, .int n3]))]) [0] rfl) (hD.sub (ws' := [(h0, .inr (4, [.ref a1, .int n1, .ref a2, .int n2, .ref a3, .ref a4, .int n3]))]) [0] rfl rfl) hS (nar_i _) ⟨by rw [f_M_number, if_neg c_2, if_neg c_4, if_pos c_5], rfl⟩ (by first | exact Nat.le_of_ble_eq_true rfl | (dsimp only; omega) | omega) (by first | exact Nat.le_of_ble_eq_true rfl | (dsimp only; omega) | omega) d_M_number_69
      by_cases c_7 : k = 1
      · refine lv_tableIn (tgt := 70) (off := 50) hx hb d_M_number_20 (by rw [c_7]; decide) (by rw [c_7]; decide) (by rw [c_7]; decide) (by decide) ?_
        refine lv_iload_n hx hb d_M_number_70 rfl (lv_at hl 1 rfl) ?_
        refine lv_bipush (v := 40) hx hb d_M_number_71 (by decide) ?_
        refine lv_icmp_ge (tgt := 82) hx hb d_M_number_73 (by decide) (fun c_8 => ?_) (fun c_8 => ?_)
        · skip
          refine lv_iconst (v := 2) hx hb d_M_number_82 (by decide) ?_
          refine lv_goto (tgt := 121) hx hb d_M_number_83 (by decide) ?_
          exact ret_i hx hb hr hlk (hP.sub (ws' := [(h0, .inr (4, [.ref a1, .int n1, .ref a2, .int n2, .ref a3, .ref a4, .int n3]))]) [0] rfl) (hD.sub (ws' := [(h0, .inr (4, [.ref a1, .int n1, .ref a2, .int n2, .ref a3, .ref a4, .int n3]))]) [0] rfl rfl) hS (nar_i _) ⟨by rw [f_M_number, if_neg c_2, if_neg c_4, if_neg c_5, if_pos c_7, if_pos c_8], rfl⟩ (by first | exact Nat.le_of_ble_eq_true rfl | (dsimp only; omega) | omega) (by first | exact Nat.le_of_ble_eq_true rfl | (dsimp only; omega) | omega) d_M_number_121
        · skip
          refine lv_iload_n hx hb d_M_number_76 rfl (lv_at hl 1 rfl) ?_
          refine lv_bipush (v := 15) hx hb d_M_number_77 (by decide) ?_
          refine lv_icmp_ne (tgt := 86) hx hb d_M_number_79 (by decide) (fun c_9 => ?_) (fun c_9 => ?_)
          · skip
            refine lv_iload_n hx hb d_M_number_86 rfl (lv_at hl 1 rfl) ?_
            refine lv_bipush (v := 14) hx hb d_M_number_87 (by decide) ?_
            refine lv_icmp_eq (tgt := 116) hx hb d_M_number_89 (by decide) (fun c_10 => ?_) (fun c_10 => ?_)
            · skip
              refine lv_iconst (v := 1) hx hb d_M_number_116 (by decide) ?_
              refine lv_goto (tgt := 121) hx hb d_M_number_117 (by decide) ?_
              exact ret_i hx hb hr hlk (hP.sub (ws' := [(h0, .inr (4, [.ref a1, .int n1, .ref a2, .int n2, .ref a3, .ref a4, .int n3]))]) [0] rfl) (hD.sub (ws' := [(h0, .inr (4, [.ref a1, .int n1, .ref a2, .int n2, .ref a3, .ref a4, .int n3]))]) [0] rfl rfl) hS (nar_i _) ⟨by rw [f_M_number, if_neg c_2, if_neg c_4, if_neg c_5, if_pos c_7, if_neg c_8, if_neg c_9, if_pos c_10], rfl⟩ (by first | exact Nat.le_of_ble_eq_true rfl | (dsimp only; omega) | omega) (by first | exact Nat.le_of_ble_eq_true rfl | (dsimp only; omega) | omega) d_M_number_121
            · skip
              refine lv_iload_n hx hb d_M_number_92 rfl (lv_at hl 1 rfl) ?_
              refine lv_bipush (v := 20) hx hb d_M_number_93 (by decide) ?_
              refine lv_icmp_eq (tgt := 116) hx hb d_M_number_95 (by decide) (fun c_11 => ?_) (fun c_11 => ?_)
              · skip
                refine lv_iconst (v := 1) hx hb d_M_number_116 (by decide) ?_
                refine lv_goto (tgt := 121) hx hb d_M_number_117 (by decide) ?_
                exact ret_i hx hb hr hlk (hP.sub (ws' := [(h0, .inr (4, [.ref a1, .int n1, .ref a2, .int n2, .ref a3, .ref a4, .int n3]))]) [0] rfl) (hD.sub (ws' := [(h0, .inr (4, [.ref a1, .int n1, .ref a2, .int n2, .ref a3, .ref a4, .int n3]))]) [0] rfl rfl) hS (nar_i _) ⟨by rw [f_M_number, if_neg c_2, if_neg c_4, if_neg c_5, if_pos c_7, if_neg c_8, if_neg c_9, if_neg c_10, if_pos c_11], rfl⟩ (by first | exact Nat.le_of_ble_eq_true rfl | (dsimp only; omega) | omega) (by first | exact Nat.le_of_ble_eq_true rfl | (dsimp only; omega) | omega) d_M_number_121
              · skip
                refine lv_iload_n hx hb d_M_number_98 rfl (lv_at hl 1 rfl) ?_
                refine lv_bipush (v := 21) hx hb d_M_number_99 (by decide) ?_
                refine lv_icmp_eq (tgt := 116) hx hb d_M_number_101 (by decide) (fun c_12 => ?_) (fun c_12 => ?_)
                · skip
                  refine lv_iconst (v := 1) hx hb d_M_number_116 (by decide) ?_
                  refine lv_goto (tgt := 121) hx hb d_M_number_117 (by decide) ?_
                  exact ret_i hx hb hr hlk (hP.sub (ws' := [(h0, .inr (4, [.ref a1, .int n1, .ref a2, .int n2, .ref a3, .ref a4, .int n3]))]) [0] rfl) (hD.sub (ws' := [(h0, .inr (4, [.ref a1, .int n1, .ref a2, .int n2, .ref a3, .ref a4, .int n3]))]) [0] rfl rfl) hS (nar_i _) ⟨by rw [f_M_number, if_neg c_2, if_neg c_4, if_neg c_5, if_pos c_7, if_neg c_8, if_neg c_9, if_neg c_10, if_neg c_11, if_pos c_12], rfl⟩ (by first | exact Nat.le_of_ble_eq_true rfl | (dsimp only; omega) | omega) (by first | exact Nat.le_of_ble_eq_true rfl | (dsimp only; omega) | omega) d_M_number_121
                · skip
                  refine lv_iload_n hx hb d_M_number_104 rfl (lv_at hl 1 rfl) ?_
                  refine lv_bipush (v := 23) hx hb d_M_number_105 (by decide) ?_
                  refine lv_icmp_eq (tgt := 116) hx hb d_M_number_107 (by decide) (fun c_13 => ?_) (fun c_13 => ?_)
                  · skip
                    refine lv_iconst (v := 1) hx hb d_M_number_116 (by decide) ?_
                    refine lv_goto (tgt := 121) hx hb d_M_number_117 (by decide) ?_
                    exact ret_i hx hb hr hlk (hP.sub (ws' := [(h0, .inr (4, [.ref a1, .int n1, .ref a2, .int n2, .ref a3, .ref a4, .int n3]))]) [0] rfl) (hD.sub (ws' := [(h0, .inr (4, [.ref a1, .int n1, .ref a2, .int n2, .ref a3, .ref a4, .int n3]))]) [0] rfl rfl) hS (nar_i _) ⟨by rw [f_M_number, if_neg c_2, if_neg c_4, if_neg c_5, if_pos c_7, if_neg c_8, if_neg c_9, if_neg c_10, if_neg c_11, if_neg c_12, if_pos c_13], rfl⟩ (by first | exact Nat.le_of_ble_eq_true rfl | (dsimp only; omega) | omega) (by first | exact Nat.le_of_ble_eq_true rfl | (dsimp only; omega) | omega) d_M_number_121
                  · skip
                    refine lv_iload_n hx hb d_M_number_110 rfl (lv_at hl 1 rfl) ?_
                    refine lv_bipush (v := 24) hx hb d_M_number_111 (by decide) ?_
                    refine lv_icmp_ne (tgt := 120) hx hb d_M_number_113 (by decide) (fun c_14 => ?_) (fun c_14 => ?_)
                    · skip
                      refine lv_iconst (v := 0) hx hb d_M_number_120 (by decide) ?_
                      exact ret_i hx hb hr hlk (hP.sub (ws' := [(h0, .inr (4, [.ref a1, .int n1, .ref a2, .int n2, .ref a3, .ref a4, .int n3]))]) [0] rfl) (hD.sub (ws' := [(h0, .inr (4, [.ref a1, .int n1, .ref a2, .int n2, .ref a3, .ref a4, .int n3]))]) [0] rfl rfl) hS (nar_i _) ⟨by rw [f_M_number, if_neg c_2, if_neg c_4, if_neg c_5, if_pos c_7, if_neg c_8, if_neg c_9, if_neg c_10, if_neg c_11, if_neg c_12, if_neg c_13, if_neg c_14], rfl⟩ (by first | exact Nat.le_of_ble_eq_true rfl | (dsimp only; omega) | omega) (by first | exact Nat.le_of_ble_eq_true rfl | (dsimp only; omega) | omega) d_M_number_121
                    · skip
                      refine lv_iconst (v := 1) hx hb d_M_number_116 (by decide) ?_
                      refine lv_goto (tgt := 121) hx hb d_M_number_117 (by decide) ?_
                      exact ret_i hx hb hr hlk (hP.sub (ws' := [(h0, .inr (4, [.ref a1, .int n1, .ref a2, .int n2, .ref a3, .ref a4, .int n3]))]) [0] rfl) (hD.sub (ws' := [(h0, .inr (4, [.ref a1, .int n1, .ref a2, .int n2, .ref a3, .ref a4, .int n3]))]) [0] rfl rfl) hS (nar_i _) ⟨by rw [f_M_number, if_neg c_2, if_neg c_4, if_neg c_5, if_pos c_7, if_neg c_8, if_neg c_9, if_neg c_10, if_neg c_11, if_neg c_12, if_neg c_13, if_pos c_14], rfl⟩ (by first | exact Nat.le_of_ble_eq_true rfl | (dsimp only; omega) | omega) (by first | exact Nat.le_of_ble_eq_true rfl | (dsimp only; omega) | omega) d_M_number_121
          · skip
            refine lv_iconst (v := 2) hx hb d_M_number_82 (by decide) ?_
            refine lv_goto (tgt := 121) hx hb d_M_number_83 (by decide) ?_
            exact ret_i hx hb hr hlk (hP.sub (ws' := [(h0, .inr (4, [.ref a1, .int n1, .ref a2, .int n2, .ref a3, .ref a4, .int n3]))]) [0] rfl) (hD.sub (ws' := [(h0, .inr (4, [.ref a1, .int n1, .ref a2, .int n2, .ref a3, .ref a4, .int n3]))]) [0] rfl rfl) hS (nar_i _) ⟨by rw [f_M_number, if_neg c_2, if_neg c_4, if_neg c_5, if_pos c_7, if_neg c_8, if_pos c_9], rfl⟩ (by first | exact Nat.le_of_ble_eq_true rfl | (dsimp only; omega) | omega) (by first | exact Nat.le_of_ble_eq_true rfl | (dsimp only; omega) | omega) d_M_number_121
      by_cases c_15 : k = 2
      · refine lv_tableIn (tgt := 122) (off := 102) hx hb d_M_number_20 (by rw [c_15]; decide) (by rw [c_15]; decide) (by rw [c_15]; decide) (by decide) ?_
        refine lv_iload_n hx hb d_M_number_122 rfl (lv_at hl 1 rfl) ?_
        refine lv_bipush (v := 21) hx hb d_M_number_123 (by decide) ?_
        refine lv_icmp_ne (tgt := 132) hx hb d_M_number_125 (by decide) (fun c_16 => ?_) (fun c_16 => ?_)
        · skip
          refine lv_iconst (v := 0) hx hb d_M_number_132 (by decide) ?_
          exact ret_i hx hb hr hlk (hP.sub (ws' := [(h0, .inr (4, [.ref a1, .int n1, .ref a2, .int n2, .ref a3, .ref a4, .int n3]))]) [0] rfl) (hD.sub (ws' := [(h0, .inr (4, [.ref a1, .int n1, .ref a2, .int n2, .ref a3, .ref a4, .int n3]))]) [0] rfl rfl) hS (nar_i _) ⟨by rw [f_M_number, if_neg c_2, if_neg c_4, if_neg c_5, if_neg c_7, if_pos c_15, if_neg c_16], rfl⟩ (by first | exact Nat.le_of_ble_eq_true rfl | (dsimp only; omega) | omega) (by first | exact Nat.le_of_ble_eq_true rfl | (dsimp only; omega) | omega) d_M_number_133
        · skip
          refine lv_iconst (v := 1) hx hb d_M_number_128 (by decide) ?_
          refine lv_goto (tgt := 133) hx hb d_M_number_129 (by decide) ?_
          exact ret_i hx hb hr hlk (hP.sub (ws' := [(h0, .inr (4, [.ref a1, .int n1, .ref a2, .int n2, .ref a3, .ref a4, .int n3]))]) [0] rfl) (hD.sub (ws' := [(h0, .inr (4, [.ref a1, .int n1, .ref a2, .int n2, .ref a3, .ref a4, .int n3]))]) [0] rfl rfl) hS (nar_i _) ⟨by rw [f_M_number, if_neg c_2, if_neg c_4, if_neg c_5, if_neg c_7, if_pos c_15, if_pos c_16], rfl⟩ (by first | exact Nat.le_of_ble_eq_true rfl | (dsimp only; omega) | omega) (by first | exact Nat.le_of_ble_eq_true rfl | (dsimp only; omega) | omega) d_M_number_133
      by_cases c_17 : k = 3
      · refine lv_tableIn (tgt := 134) (off := 114) hx hb d_M_number_20 (by rw [c_17]; decide) (by rw [c_17]; decide) (by rw [c_17]; decide) (by decide) ?_
        refine lv_iload_n hx hb d_M_number_134 rfl (lv_at hl 1 rfl) ?_
        refine lv_bipush (v := 16) hx hb d_M_number_135 (by decide) ?_
        refine lv_icmp_ne (tgt := 144) hx hb d_M_number_137 (by decide) (fun c_18 => ?_) (fun c_18 => ?_)
        · skip
          refine lv_bipush (v := (-2)) hx hb d_M_number_144 (by decide) ?_
          exact ret_i hx hb hr hlk (hP.sub (ws' := [(h0, .inr (4, [.ref a1, .int n1, .ref a2, .int n2, .ref a3, .ref a4, .int n3]))]) [0] rfl) (hD.sub (ws' := [(h0, .inr (4, [.ref a1, .int n1, .ref a2, .int n2, .ref a3, .ref a4, .int n3]))]) [0] rfl rfl) hS (nar_i _) ⟨by rw [f_M_number, if_neg c_2, if_neg c_4, if_neg c_5, if_neg c_7, if_neg c_15, if_pos c_17, if_neg c_18], rfl⟩ (by first | exact Nat.le_of_ble_eq_true rfl | (dsimp only; omega) | omega) (by first | exact Nat.le_of_ble_eq_true rfl | (dsimp only; omega) | omega) d_M_number_146
        · skip
          refine lv_iconst (v := 2) hx hb d_M_number_140 (by decide) ?_
          refine lv_goto (tgt := 146) hx hb d_M_number_141 (by decide) ?_
          exact ret_i hx hb hr hlk (hP.sub (ws' := [(h0, .inr (4, [.ref a1, .int n1, .ref a2, .int n2, .ref a3, .ref a4, .int n3]))]) [0] rfl) (hD.sub (ws' := [(h0, .inr (4, [.ref a1, .int n1, .ref a2, .int n2, .ref a3, .ref a4, .int n3]))]) [0] rfl rfl) hS (nar_i _) ⟨by rw [f_M_number, if_neg c_2, if_neg c_4, if_neg c_5, if_neg c_7, if_neg c_15, if_pos c_17, if_pos c_18], rfl⟩ (by first | exact Nat.le_of_ble_eq_true rfl | (dsimp only; omega) | omega) (by first | exact Nat.le_of_ble_eq_true rfl | (dsimp only; omega) | omega) d_M_number_146
      by_cases c_19 : k = 4
      · refine lv_tableIn (tgt := 147) (off := 127) hx hb d_M_number_20 (by rw [c_19]; decide) (by rw [c_19]; decide) (by rw [c_19]; decide) (by decide) ?_
        refine lv_iload_n hx hb d_M_number_147 rfl (lv_at hl 1 rfl) ?_
        refine lv_bipush (v := 14) hx hb d_M_number_148 (by decide) ?_
        refine lv_icmp_ne (tgt := 157) hx hb d_M_number_150 (by decide) (fun c_20 => ?_) (fun c_20 => ?_)
        · skip
          refine lv_bipush (v := (-2)) hx hb d_M_number_157 (by decide) ?_
          exact ret_i hx hb hr hlk (hP.sub (ws' := [(h0, .inr (4, [.ref a1, .int n1, .ref a2, .int n2, .ref a3, .ref a4, .int n3]))]) [0] rfl) (hD.sub (ws' := [(h0, .inr (4, [.ref a1, .int n1, .ref a2, .int n2, .ref a3, .ref a4, .int n3]))]) [0] rfl rfl) hS (nar_i _) ⟨by rw [f_M_number, if_neg c_2, if_neg c_4, if_neg c_5, if_neg c_7, if_neg c_15, if_neg c_17, if_pos c_19, if_neg c_20], rfl⟩ (by first | exact Nat.le_of_ble_eq_true rfl | (dsimp only; omega) | omega) (by first | exact Nat.le_of_ble_eq_true rfl | (dsimp only; omega) | omega) d_M_number_159
        · skip
          refine lv_iconst (v := 1) hx hb d_M_number_153 (by decide) ?_
          refine lv_goto (tgt := 159) hx hb d_M_number_154 (by decide) ?_
          exact ret_i hx hb hr hlk (hP.sub (ws' := [(h0, .inr (4, [.ref a1, .int n1, .ref a2, .int n2, .ref a3, .ref a4, .int n3]))]) [0] rfl) (hD.sub (ws' := [(h0, .inr (4, [.ref a1, .int n1, .ref a2, .int n2, .ref a3, .ref a4, .int n3]))]) [0] rfl rfl) hS (nar_i _) ⟨by rw [f_M_number, if_neg c_2, if_neg c_4, if_neg c_5, if_neg c_7, if_neg c_15, if_neg c_17, if_pos c_19, if_pos c_20], rfl⟩ (by first | exact Nat.le_of_ble_eq_true rfl | (dsimp only; omega) | omega) (by first | exact Nat.le_of_ble_eq_true rfl | (dsimp only; omega) | omega) d_M_number_159
      by_cases c_21 : k = 5
      · refine lv_tableIn (tgt := 160) (off := 140) hx hb d_M_number_20 (by rw [c_21]; decide) (by rw [c_21]; decide) (by rw [c_21]; decide) (by decide) ?_
        refine lv_iload_n hx hb d_M_number_160 rfl (lv_at hl 1 rfl) ?_
        refine lv_bipush (v := 13) hx hb d_M_number_161 (by decide) ?_
        refine lv_icmp_ne (tgt := 170) hx hb d_M_number_163 (by decide) (fun c_22 => ?_) (fun c_22 => ?_)
        · skip
          refine lv_iload_n hx hb d_M_number_170 rfl (lv_at hl 1 rfl) ?_
          refine lv_bipush (v := 16) hx hb d_M_number_171 (by decide) ?_
          refine lv_icmp_ne (tgt := 180) hx hb d_M_number_173 (by decide) (fun c_23 => ?_) (fun c_23 => ?_)
          · skip
            refine lv_bipush (v := (-2)) hx hb d_M_number_180 (by decide) ?_
            exact ret_i hx hb hr hlk (hP.sub (ws' := [(h0, .inr (4, [.ref a1, .int n1, .ref a2, .int n2, .ref a3, .ref a4, .int n3]))]) [0] rfl) (hD.sub (ws' := [(h0, .inr (4, [.ref a1, .int n1, .ref a2, .int n2, .ref a3, .ref a4, .int n3]))]) [0] rfl rfl) hS (nar_i _) ⟨by rw [f_M_number, if_neg c_2, if_neg c_4, if_neg c_5, if_neg c_7, if_neg c_15, if_neg c_17, if_neg c_19, if_pos c_21, if_neg c_22, if_neg c_23], rfl⟩ (by first | exact Nat.le_of_ble_eq_true rfl | (dsimp only; omega) | omega) (by first | exact Nat.le_of_ble_eq_true rfl | (dsimp only; omega) | omega) d_M_number_182
          · skip
            refine lv_iconst (v := 1) hx hb d_M_number_176 (by decide) ?_
            refine lv_goto (tgt := 182) hx hb d_M_number_177 (by decide) ?_
            exact ret_i hx hb hr hlk (hP.sub (ws' := [(h0, .inr (4, [.ref a1, .int n1, .ref a2, .int n2, .ref a3, .ref a4, .int n3]))]) [0] rfl) (hD.sub (ws' := [(h0, .inr (4, [.ref a1, .int n1, .ref a2, .int n2, .ref a3, .ref a4, .int n3]))]) [0] rfl rfl) hS (nar_i _) ⟨by rw [f_M_number, if_neg c_2, if_neg c_4, if_neg c_5, if_neg c_7, if_neg c_15, if_neg c_17, if_neg c_19, if_pos c_21, if_neg c_22, if_pos c_23], rfl⟩ (by first | exact Nat.le_of_ble_eq_true rfl | (dsimp only; omega) | omega) (by first | exact Nat.le_of_ble_eq_true rfl | (dsimp only; omega) | omega) d_M_number_182
        · skip
          refine lv_iconst (v := 2) hx hb d_M_number_166 (by decide) ?_
          refine lv_goto (tgt := 182) hx hb d_M_number_167 (by decide) ?_
          exact ret_i hx hb hr hlk (hP.sub (ws' := [(h0, .inr (4, [.ref a1, .int n1, .ref a2, .int n2, .ref a3, .ref a4, .int n3]))]) [0] rfl) (hD.sub (ws' := [(h0, .inr (4, [.ref a1, .int n1, .ref a2, .int n2, .ref a3, .ref a4, .int n3]))]) [0] rfl rfl) hS (nar_i _) ⟨by rw [f_M_number, if_neg c_2, if_neg c_4, if_neg c_5, if_neg c_7, if_neg c_15, if_neg c_17, if_neg c_19, if_pos c_21, if_pos c_22], rfl⟩ (by first | exact Nat.le_of_ble_eq_true rfl | (dsimp only; omega) | omega) (by first | exact Nat.le_of_ble_eq_true rfl | (dsimp only; omega) | omega) d_M_number_182
      by_cases c_24 : k = 6
      · refine lv_tableIn (tgt := 183) (off := 163) hx hb d_M_number_20 (by rw [c_24]; decide) (by rw [c_24]; decide) (by rw [c_24]; decide) (by decide) ?_
        refine lv_iload_n hx hb d_M_number_183 rfl (lv_at hl 1 rfl) ?_
        refine lv_bipush (v := 11) hx hb d_M_number_184 (by decide) ?_
        refine lv_icmp_ne (tgt := 194) hx hb d_M_number_186 (by decide) (fun c_25 => ?_) (fun c_25 => ?_)
        · skip
          refine lv_iload_n hx hb d_M_number_194 rfl (lv_at hl 1 rfl) ?_
          refine lv_bipush (v := 18) hx hb d_M_number_195 (by decide) ?_
          refine lv_icmp_ne (tgt := 204) hx hb d_M_number_197 (by decide) (fun c_26 => ?_) (fun c_26 => ?_)
          · skip
            refine lv_iconst (v := 0) hx hb d_M_number_204 (by decide) ?_
            exact ret_i hx hb hr hlk (hP.sub (ws' := [(h0, .inr (4, [.ref a1, .int n1, .ref a2, .int n2, .ref a3, .ref a4, .int n3]))]) [0] rfl) (hD.sub (ws' := [(h0, .inr (4, [.ref a1, .int n1, .ref a2, .int n2, .ref a3, .ref a4, .int n3]))]) [0] rfl rfl) hS (nar_i _) ⟨by rw [f_M_number, if_neg c_2, if_neg c_4, if_neg c_5, if_neg c_7, if_neg c_15, if_neg c_17, if_neg c_19, if_neg c_21, if_pos c_24, if_neg c_25, if_neg c_26], rfl⟩ (by first | exact Nat.le_of_ble_eq_true rfl | (dsimp only; omega) | omega) (by first | exact Nat.le_of_ble_eq_true rfl | (dsimp only; omega) | omega) d_M_number_205
          · skip
            refine lv_iconst (v := 1) hx hb d_M_number_200 (by decide) ?_
            refine lv_goto (tgt := 205) hx hb d_M_number_201 (by decide) ?_
            exact ret_i hx hb hr hlk (hP.sub (ws' := [(h0, .inr (4, [.ref a1, .int n1, .ref a2, .int n2, .ref a3, .ref a4, .int n3]))]) [0] rfl) (hD.sub (ws' := [(h0, .inr (4, [.ref a1, .int n1, .ref a2, .int n2, .ref a3, .ref a4, .int n3]))]) [0] rfl rfl) hS (nar_i _) ⟨by rw [f_M_number, if_neg c_2, if_neg c_4, if_neg c_5, if_neg c_7, if_neg c_15, if_neg c_17, if_neg c_19, if_neg c_21, if_pos c_24, if_neg c_25, if_pos c_26], rfl⟩ (by first | exact Nat.le_of_ble_eq_true rfl | (dsimp only; omega) | omega) (by first | exact Nat.le_of_ble_eq_true rfl | (dsimp only; omega) | omega) d_M_number_205
        · skip
          refine lv_bipush (v := 9) hx hb d_M_number_189 (by decide) ?_
          refine lv_goto (tgt := 205) hx hb d_M_number_191 (by decide) ?_
          exact ret_i hx hb hr hlk (hP.sub (ws' := [(h0, .inr (4, [.ref a1, .int n1, .ref a2, .int n2, .ref a3, .ref a4, .int n3]))]) [0] rfl) (hD.sub (ws' := [(h0, .inr (4, [.ref a1, .int n1, .ref a2, .int n2, .ref a3, .ref a4, .int n3]))]) [0] rfl rfl) hS (nar_i _) ⟨by rw [f_M_number, if_neg c_2, if_neg c_4, if_neg c_5, if_neg c_7, if_neg c_15, if_neg c_17, if_neg c_19, if_neg c_21, if_pos c_24, if_pos c_25], rfl⟩ (by first | exact Nat.le_of_ble_eq_true rfl | (dsimp only; omega) | omega) (by first | exact Nat.le_of_ble_eq_true rfl | (dsimp only; omega) | omega) d_M_number_205
      refine lv_tableOut (tgt := 206) hx hb d_M_number_20 (by have := lv_neT (a := 0) c_5 (by decide); have := lv_neT (a := 1) c_7 (by decide); have := lv_neT (a := 2) c_15 (by decide); have := lv_neT (a := 3) c_17 (by decide); have := lv_neT (a := 4) c_19 (by decide); have := lv_neT (a := 5) c_21 (by decide); have := lv_neT (a := 6) c_24 (by decide); omega) (by decide) ?_
      refine lv_iload_n hx hb d_M_number_206 rfl (lv_at hl 1 rfl) ?_
      refine lv_bipush (v := 9) hx hb d_M_number_207 (by decide) ?_
      refine lv_icmp_eq (tgt := 218) hx hb d_M_number_209 (by decide) (fun c_27 => ?_) (fun c_27 => ?_)
      · skip
        refine lv_iconst (v := (-1)) hx hb d_M_number_218 (by decide) ?_
        refine lv_goto (tgt := 239) hx hb d_M_number_219 (by decide) ?_
        exact ret_i hx hb hr hlk (hP.sub (ws' := [(h0, .inr (4, [.ref a1, .int n1, .ref a2, .int n2, .ref a3, .ref a4, .int n3]))]) [0] rfl) (hD.sub (ws' := [(h0, .inr (4, [.ref a1, .int n1, .ref a2, .int n2, .ref a3, .ref a4, .int n3]))]) [0] rfl rfl) hS (nar_i _) ⟨by rw [f_M_number, if_neg c_2, if_neg c_4, if_neg c_5, if_neg c_7, if_neg c_15, if_neg c_17, if_neg c_19, if_neg c_21, if_neg c_24, if_pos c_27], rfl⟩ (by first | exact Nat.le_of_ble_eq_true rfl | (dsimp only; omega) | omega) (by first | exact Nat.le_of_ble_eq_true rfl | (dsimp only; omega) | omega) d_M_number_239
      · skip
        refine lv_iload_n hx hb d_M_number_212 rfl (lv_at hl 1 rfl) ?_
        refine lv_bipush (v := 10) hx hb d_M_number_213 (by decide) ?_
        refine lv_icmp_ne (tgt := 222) hx hb d_M_number_215 (by decide) (fun c_28 => ?_) (fun c_28 => ?_)
        · skip
          refine lv_iload_n hx hb d_M_number_222 rfl (lv_at hl 1 rfl) ?_
          refine lv_bipush (v := 11) hx hb d_M_number_223 (by decide) ?_
          refine lv_bipush (v := 24) hx hb d_M_number_225 (by decide) ?_
          refine pm_callE hF hN (c_M_in l t 11 24) k_M_in j_M_26 ⟨Nat.le_of_ble_eq_true rfl, Nat.le_of_ble_eq_true rfl⟩ rfl hl.1 (Nat.le_of_ble_eq_true rfl) d_M_number_227 ⟨by first | omega | exact Nat.zero_le _, by first | omega | exact Nat.zero_le _⟩ ?_
          refine lv_if_eq (tgt := 238) hx hb d_M_number_230 (by decide) (fun c_30 => ?_) (fun c_30 => ?_)
          · skip
            refine lv_iconst (v := 1) hx hb d_M_number_238 (by decide) ?_
            exact ret_i hx hb hr hlk (hP.sub (ws' := [(h0, .inr (4, [.ref a1, .int n1, .ref a2, .int n2, .ref a3, .ref a4, .int n3]))]) [0] rfl) (hD.sub (ws' := [(h0, .inr (4, [.ref a1, .int n1, .ref a2, .int n2, .ref a3, .ref a4, .int n3]))]) [0] rfl rfl) hS (nar_i _) ⟨by rw [f_M_number, if_neg c_2, if_neg c_4, if_neg c_5, if_neg c_7, if_neg c_15, if_neg c_17, if_neg c_19, if_neg c_21, if_neg c_24, if_neg c_27, if_neg c_28, if_pos c_30], rfl⟩ (by first | exact Nat.le_of_ble_eq_true rfl | (dsimp only; omega) | omega) (by first | exact Nat.le_of_ble_eq_true rfl | (dsimp only; omega) | omega) d_M_number_239
          · skip
            refine lv_bipush (v := 14) hx hb d_M_number_233 (by decide) ?_
            refine lv_goto (tgt := 239) hx hb d_M_number_235 (by decide) ?_
            exact ret_i hx hb hr hlk (hP.sub (ws' := [(h0, .inr (4, [.ref a1, .int n1, .ref a2, .int n2, .ref a3, .ref a4, .int n3]))]) [0] rfl) (hD.sub (ws' := [(h0, .inr (4, [.ref a1, .int n1, .ref a2, .int n2, .ref a3, .ref a4, .int n3]))]) [0] rfl rfl) hS (nar_i _) ⟨by rw [f_M_number, if_neg c_2, if_neg c_4, if_neg c_5, if_neg c_7, if_neg c_15, if_neg c_17, if_neg c_19, if_neg c_21, if_neg c_24, if_neg c_27, if_neg c_28, if_neg c_30], rfl⟩ (by first | exact Nat.le_of_ble_eq_true rfl | (dsimp only; omega) | omega) (by first | exact Nat.le_of_ble_eq_true rfl | (dsimp only; omega) | omega) d_M_number_239
        · skip
          refine lv_iconst (v := (-1)) hx hb d_M_number_218 (by decide) ?_
          refine lv_goto (tgt := 239) hx hb d_M_number_219 (by decide) ?_
          exact ret_i hx hb hr hlk (hP.sub (ws' := [(h0, .inr (4, [.ref a1, .int n1, .ref a2, .int n2, .ref a3, .ref a4, .int n3]))]) [0] rfl) (hD.sub (ws' := [(h0, .inr (4, [.ref a1, .int n1, .ref a2, .int n2, .ref a3, .ref a4, .int n3]))]) [0] rfl rfl) hS (nar_i _) ⟨by rw [f_M_number, if_neg c_2, if_neg c_4, if_neg c_5, if_neg c_7, if_neg c_15, if_neg c_17, if_neg c_19, if_neg c_21, if_neg c_24, if_neg c_27, if_pos c_28], rfl⟩ (by first | exact Nat.le_of_ble_eq_true rfl | (dsimp only; omega) | omega) (by first | exact Nat.le_of_ble_eq_true rfl | (dsimp only; omega) | omega) d_M_number_239
    · skip
      refine lv_iconst (v := (-1)) hx hb d_M_number_17 (by decide) ?_
      exact ret_i hx hb hr hlk (hP.sub (ws' := [(h0, .inr (4, [.ref a1, .int n1, .ref a2, .int n2, .ref a3, .ref a4, .int n3]))]) [0] rfl) (hD.sub (ws' := [(h0, .inr (4, [.ref a1, .int n1, .ref a2, .int n2, .ref a3, .ref a4, .int n3]))]) [0] rfl rfl) hS (nar_i _) ⟨by rw [f_M_number, if_neg c_2, if_pos c_4], rfl⟩ (by first | exact Nat.le_of_ble_eq_true rfl | (dsimp only; omega) | omega) (by first | exact Nat.le_of_ble_eq_true rfl | (dsimp only; omega) | omega) d_M_number_18
end
section
section PL
variable {p : Program} {l : Launch} {e : Env} {R : Room} {s : State} {m : MethodId} {args : Array Value} {below : List Frame} {meth : Method} {c : Code} {H : Heap} {locs : List Loc} {cells slots : Nat} {Q : State → Prop}
variable {cc b : ByteArray} {pc nL n fr lo index : Nat} {ls : Array Slot} {rest st0 As : List Value} {y : MethodName} {own : String}
theorem pl_callE {v : Int64} (hF : CallFix p m c cc nL s args tk own) (hN : Nst s) (hM : pmL l y b n fr lo As (fun r => r = v)) (k : ck y b n (some .long) As.length (.static y)) (hl : Cond.methodLink own index y ∈ tk)
    (hR : fr + 1 ≤ R.frames ∧ 8 + (n + 11) + lo ≤ R.locals) (hst : st0 = As.reverse ++ rest) (hsz : ls.size = nL) (hW : (rest.map fun v => v.category).sum ≤ 8) (hdg : decode cc pc = .ok (.invokestatic index, 3)) (hf : cells ≤ R.cells ∧ slots ≤ R.slots)
    (kk : W p l e R s m args below meth c H locs cells slots Q (F0 m (pc + 3) ls (.long v :: rest))) : W p l e R s m args below meth c H locs cells slots Q (F0 m pc ls st0) :=
  vp_callSl (W.runS hF hM ⟨callB_of As.length hF.2.2.2.2 (tk_in k.1) rfl rfl rfl (hF.2.2.2.2 _ k.2.2.1) (hF.2.2.2.2 _ hl) k.2.2.2 hR, hF.2.2.2.2 _ k.2.1⟩ ⟨nst_blind, fun _ _ hW => ⟨rfl, hN.warm hW⟩⟩ rfl rfl hsz hst (lv_room hW) hdg hf) (fun r er => by rw [er]; exact kk)
/-- x = 0 ? 0 : 1 -/
def zb (x : Int32) : Int32 := if x = 0 then 0 else 1
theorem jn_b {x : Int32} (hx : p.tables.exec = Jvm.exec) (hb : c.code = cc) (d0 : decode cc pc = .ok (.ifCond .eq 7, 3)) (d1 : decode cc (pc + 3) = .ok (.iconst 1, 1)) (d2 : decode cc (pc + 3 + 1) = .ok (.goto 4, 3)) (d3 : decode cc (pc + 7) = .ok (.iconst 0, 1))
    (k : W p l e R s m args below meth c H locs cells slots Q (F0 m (pc + 8) ls (.int (zb x) :: rest))) : W p l e R s m args below meth c H locs cells slots Q (F0 m pc ls (.int x :: rest)) := by
  refine lv_if_eq (tgt := pc + 7) hx hb d0 (by omega) (fun h => ?_) (fun h => ?_)
  · refine lv_iconst (v := 0) hx hb d3 (by decide) ?_
    rw [zb, if_pos h] at k
    exact k
  · refine lv_iconst (v := 1) hx hb d1 (by decide) ?_
    refine lv_goto (tgt := pc + 8) hx hb d2 (by omega) ?_
    rw [zb, if_neg h] at k
    exact k
end PL
/-- the model's text: made holds xs -/
def mt (xs : List Int32) (md : Nat → Int32) : Prop := xs.length ≤ 200 ∧ ∀ i, i < xs.length → md i = xs.getD i 0
theorem mt_one {xs : List Int32} {md : Nat → Int32} {c : Int32} (h : mt xs md) (hl : xs.length + 1 ≤ 200) : mt (xs ++ [c]) (upd md (nI xs.length : Int32).toNatClampNeg c) := by
  refine ⟨by rw [List.length_append]; exact hl, fun i hi => ?_⟩
  rw [List.length_append] at hi
  have hi2 : i < xs.length + 1 := hi
  rw [nI_clamp (by omega)]
  by_cases e : i = xs.length
  · subst e
    rw [pk_us]
    simp
  · rw [pk_un e, h.2 i (by omega)]
    simp [List.getD, List.getElem?_append_left (show i < xs.length by omega)]
def z_M_one (xs : List Int32) (c : Int32) : List Int32 := xs ++ [c]
theorem z_one_len (xs : List Int32) (c : Int32) : (z_M_one xs c).length = xs.length + 1 := by rw [z_M_one, List.length_append]; rfl
end
section
def f_M_own (t : Int32) : Int64 := (if t = 0 then 27707072068280686 else (if t = 1 then 1652126821 else (if t = 2 then 1667785074 else (if t = 3 then 495673373300 else (if t = 4 then 6909556 else (if t = 5 then 1819242087 else (if t = 6 then 439905902964 else (if t = 7 then 110429873532005 else (if t = 8 then 1987012964 else (if t = 9 then 87284110418804 else (if t = 10 then 5941776703744535653 else (if t = 11 then 0 else (if t = 12 then 1298231915 else (if t = 13 then 358233501797 else (if t = 14 then 74120169745509 else (if t = 15 then 91746765730405 else (if t = 16 then 289632186226 else (if t = 17 then 49 else (if t = 18 then 315385341298 else (if t = 19 then 1147495792 else (if t = 20 then 1315927141 else (if t = 21 then 4353912 else (if t = 22 then 1415670892 else (if t = 23 then 328286298476 else (if t = 24 then 49 else 0)))))))))))))))))))))))))
set_option maxRecDepth 100000 in
theorem k_M_own : ck y_M_own b_M_own 1 (some .long) 1 (.static y_M_own) := ⟨tk_of (List.mem_of_getElem? (i := 748) rfl) rfl, tk_of (List.mem_of_getElem? (i := 747) (by decide +kernel)) rfl, tk_of (List.mem_of_getElem? (i := 43) (by decide +kernel)) rfl, by decide +kernel⟩
theorem cl_M_30 : Cond.constantLong R_M 30 27707072068280686 ∈ tk := tk_of (List.mem_of_getElem? (i := 749) (by decide +kernel)) rfl
theorem cl_M_32 : Cond.constantLong R_M 32 1652126821 ∈ tk := tk_of (List.mem_of_getElem? (i := 750) (by decide +kernel)) rfl
theorem cl_M_34 : Cond.constantLong R_M 34 1667785074 ∈ tk := tk_of (List.mem_of_getElem? (i := 751) (by decide +kernel)) rfl
theorem cl_M_36 : Cond.constantLong R_M 36 495673373300 ∈ tk := tk_of (List.mem_of_getElem? (i := 752) (by decide +kernel)) rfl
theorem cl_M_38 : Cond.constantLong R_M 38 6909556 ∈ tk := tk_of (List.mem_of_getElem? (i := 753) (by decide +kernel)) rfl
theorem cl_M_40 : Cond.constantLong R_M 40 1819242087 ∈ tk := tk_of (List.mem_of_getElem? (i := 754) (by decide +kernel)) rfl
theorem cl_M_42 : Cond.constantLong R_M 42 439905902964 ∈ tk := tk_of (List.mem_of_getElem? (i := 755) (by decide +kernel)) rfl
theorem cl_M_44 : Cond.constantLong R_M 44 110429873532005 ∈ tk := tk_of (List.mem_of_getElem? (i := 756) (by decide +kernel)) rfl
theorem cl_M_46 : Cond.constantLong R_M 46 1987012964 ∈ tk := tk_of (List.mem_of_getElem? (i := 757) (by decide +kernel)) rfl
theorem cl_M_48 : Cond.constantLong R_M 48 87284110418804 ∈ tk := tk_of (List.mem_of_getElem? (i := 758) (by decide +kernel)) rfl
theorem cl_M_50 : Cond.constantLong R_M 50 5941776703744535653 ∈ tk := tk_of (List.mem_of_getElem? (i := 759) (by decide +kernel)) rfl
theorem cl_M_52 : Cond.constantLong R_M 52 1298231915 ∈ tk := tk_of (List.mem_of_getElem? (i := 760) (by decide +kernel)) rfl
theorem cl_M_54 : Cond.constantLong R_M 54 358233501797 ∈ tk := tk_of (List.mem_of_getElem? (i := 761) (by decide +kernel)) rfl
theorem cl_M_56 : Cond.constantLong R_M 56 74120169745509 ∈ tk := tk_of (List.mem_of_getElem? (i := 762) (by decide +kernel)) rfl
theorem cl_M_58 : Cond.constantLong R_M 58 91746765730405 ∈ tk := tk_of (List.mem_of_getElem? (i := 763) (by decide +kernel)) rfl
theorem cl_M_60 : Cond.constantLong R_M 60 289632186226 ∈ tk := tk_of (List.mem_of_getElem? (i := 764) (by decide +kernel)) rfl
theorem cl_M_62 : Cond.constantLong R_M 62 49 ∈ tk := tk_of (List.mem_of_getElem? (i := 765) (by decide +kernel)) rfl
theorem cl_M_64 : Cond.constantLong R_M 64 315385341298 ∈ tk := tk_of (List.mem_of_getElem? (i := 766) (by decide +kernel)) rfl
theorem cl_M_66 : Cond.constantLong R_M 66 1147495792 ∈ tk := tk_of (List.mem_of_getElem? (i := 767) (by decide +kernel)) rfl
theorem cl_M_68 : Cond.constantLong R_M 68 1315927141 ∈ tk := tk_of (List.mem_of_getElem? (i := 768) (by decide +kernel)) rfl
theorem cl_M_70 : Cond.constantLong R_M 70 4353912 ∈ tk := tk_of (List.mem_of_getElem? (i := 769) (by decide +kernel)) rfl
theorem cl_M_72 : Cond.constantLong R_M 72 1415670892 ∈ tk := tk_of (List.mem_of_getElem? (i := 770) (by decide +kernel)) rfl
theorem cl_M_74 : Cond.constantLong R_M 74 328286298476 ∈ tk := tk_of (List.mem_of_getElem? (i := 771) (by decide +kernel)) rfl
set_option maxHeartbeats 4000000 in
set_option maxRecDepth 100000 in
theorem c_M_own (l : Launch) (t : Int32) : pmL l y_M_own b_M_own 1 0 0 [.int t] (fun r => r = f_M_own t) := by
  refine pl_of (by decide) (Nat.le_of_ble_eq_true rfl) ?_
  intro p e s m below meth c ls hx hb hF hr hlk hN hl
  have hl : lv_has ls 1 [(0, .int t)] := hl
  refine lv_iload_n hx hb d_M_own_0 rfl (lv_at hl 0 rfl) ?_
  by_cases c_1 : t = 0
  · refine lv_tableIn (tgt := 116) (off := 115) hx hb d_M_own_1 (by rw [c_1]; decide) (by rw [c_1]; decide) (by rw [c_1]; decide) (by decide) ?_
    refine lv_ldc2 (v := 27707072068280686) hx hb hF.2.2.2.1 (hF.2.2.2.2 _ cl_M_30) d_M_own_116 ?_
    exact pl_ret hx hb hr hlk (by rw [f_M_own, if_pos c_1]) d_M_own_119
  by_cases c_2 : t = 1
  · refine lv_tableIn (tgt := 120) (off := 119) hx hb d_M_own_1 (by rw [c_2]; decide) (by rw [c_2]; decide) (by rw [c_2]; decide) (by decide) ?_
    refine lv_ldc2 (v := 1652126821) hx hb hF.2.2.2.1 (hF.2.2.2.2 _ cl_M_32) d_M_own_120 ?_
    exact pl_ret hx hb hr hlk (by rw [f_M_own, if_neg c_1, if_pos c_2]) d_M_own_123
  by_cases c_3 : t = 2
  · refine lv_tableIn (tgt := 124) (off := 123) hx hb d_M_own_1 (by rw [c_3]; decide) (by rw [c_3]; decide) (by rw [c_3]; decide) (by decide) ?_
    refine lv_ldc2 (v := 1667785074) hx hb hF.2.2.2.1 (hF.2.2.2.2 _ cl_M_34) d_M_own_124 ?_
    exact pl_ret hx hb hr hlk (by rw [f_M_own, if_neg c_1, if_neg c_2, if_pos c_3]) d_M_own_127
  by_cases c_4 : t = 3
  · refine lv_tableIn (tgt := 128) (off := 127) hx hb d_M_own_1 (by rw [c_4]; decide) (by rw [c_4]; decide) (by rw [c_4]; decide) (by decide) ?_
    refine lv_ldc2 (v := 495673373300) hx hb hF.2.2.2.1 (hF.2.2.2.2 _ cl_M_36) d_M_own_128 ?_
    exact pl_ret hx hb hr hlk (by rw [f_M_own, if_neg c_1, if_neg c_2, if_neg c_3, if_pos c_4]) d_M_own_131
  by_cases c_5 : t = 4
  · refine lv_tableIn (tgt := 132) (off := 131) hx hb d_M_own_1 (by rw [c_5]; decide) (by rw [c_5]; decide) (by rw [c_5]; decide) (by decide) ?_
    refine lv_ldc2 (v := 6909556) hx hb hF.2.2.2.1 (hF.2.2.2.2 _ cl_M_38) d_M_own_132 ?_
    exact pl_ret hx hb hr hlk (by rw [f_M_own, if_neg c_1, if_neg c_2, if_neg c_3, if_neg c_4, if_pos c_5]) d_M_own_135
  by_cases c_6 : t = 5
  · refine lv_tableIn (tgt := 136) (off := 135) hx hb d_M_own_1 (by rw [c_6]; decide) (by rw [c_6]; decide) (by rw [c_6]; decide) (by decide) ?_
    refine lv_ldc2 (v := 1819242087) hx hb hF.2.2.2.1 (hF.2.2.2.2 _ cl_M_40) d_M_own_136 ?_
    exact pl_ret hx hb hr hlk (by rw [f_M_own, if_neg c_1, if_neg c_2, if_neg c_3, if_neg c_4, if_neg c_5, if_pos c_6]) d_M_own_139
  by_cases c_7 : t = 6
  · refine lv_tableIn (tgt := 140) (off := 139) hx hb d_M_own_1 (by rw [c_7]; decide) (by rw [c_7]; decide) (by rw [c_7]; decide) (by decide) ?_
    refine lv_ldc2 (v := 439905902964) hx hb hF.2.2.2.1 (hF.2.2.2.2 _ cl_M_42) d_M_own_140 ?_
    exact pl_ret hx hb hr hlk (by rw [f_M_own, if_neg c_1, if_neg c_2, if_neg c_3, if_neg c_4, if_neg c_5, if_neg c_6, if_pos c_7]) d_M_own_143
  by_cases c_8 : t = 7
  · refine lv_tableIn (tgt := 144) (off := 143) hx hb d_M_own_1 (by rw [c_8]; decide) (by rw [c_8]; decide) (by rw [c_8]; decide) (by decide) ?_
    refine lv_ldc2 (v := 110429873532005) hx hb hF.2.2.2.1 (hF.2.2.2.2 _ cl_M_44) d_M_own_144 ?_
    exact pl_ret hx hb hr hlk (by rw [f_M_own, if_neg c_1, if_neg c_2, if_neg c_3, if_neg c_4, if_neg c_5, if_neg c_6, if_neg c_7, if_pos c_8]) d_M_own_147
  by_cases c_9 : t = 8
  · refine lv_tableIn (tgt := 148) (off := 147) hx hb d_M_own_1 (by rw [c_9]; decide) (by rw [c_9]; decide) (by rw [c_9]; decide) (by decide) ?_
    refine lv_ldc2 (v := 1987012964) hx hb hF.2.2.2.1 (hF.2.2.2.2 _ cl_M_46) d_M_own_148 ?_
    exact pl_ret hx hb hr hlk (by rw [f_M_own, if_neg c_1, if_neg c_2, if_neg c_3, if_neg c_4, if_neg c_5, if_neg c_6, if_neg c_7, if_neg c_8, if_pos c_9]) d_M_own_151
  by_cases c_10 : t = 9
  · refine lv_tableIn (tgt := 152) (off := 151) hx hb d_M_own_1 (by rw [c_10]; decide) (by rw [c_10]; decide) (by rw [c_10]; decide) (by decide) ?_
    refine lv_ldc2 (v := 87284110418804) hx hb hF.2.2.2.1 (hF.2.2.2.2 _ cl_M_48) d_M_own_152 ?_
    exact pl_ret hx hb hr hlk (by rw [f_M_own, if_neg c_1, if_neg c_2, if_neg c_3, if_neg c_4, if_neg c_5, if_neg c_6, if_neg c_7, if_neg c_8, if_neg c_9, if_pos c_10]) d_M_own_155
  by_cases c_11 : t = 10
  · refine lv_tableIn (tgt := 156) (off := 155) hx hb d_M_own_1 (by rw [c_11]; decide) (by rw [c_11]; decide) (by rw [c_11]; decide) (by decide) ?_
    refine lv_ldc2 (v := 5941776703744535653) hx hb hF.2.2.2.1 (hF.2.2.2.2 _ cl_M_50) d_M_own_156 ?_
    exact pl_ret hx hb hr hlk (by rw [f_M_own, if_neg c_1, if_neg c_2, if_neg c_3, if_neg c_4, if_neg c_5, if_neg c_6, if_neg c_7, if_neg c_8, if_neg c_9, if_neg c_10, if_pos c_11]) d_M_own_159
  by_cases c_12 : t = 11
  · refine lv_tableIn (tgt := 208) (off := 207) hx hb d_M_own_1 (by rw [c_12]; decide) (by rw [c_12]; decide) (by rw [c_12]; decide) (by decide) ?_
    refine lv_lconst (v := 0) hx hb d_M_own_208 (by decide) ?_
    exact pl_ret hx hb hr hlk (by rw [f_M_own, if_neg c_1, if_neg c_2, if_neg c_3, if_neg c_4, if_neg c_5, if_neg c_6, if_neg c_7, if_neg c_8, if_neg c_9, if_neg c_10, if_neg c_11, if_pos c_12]) d_M_own_209
  by_cases c_13 : t = 12
  · refine lv_tableIn (tgt := 160) (off := 159) hx hb d_M_own_1 (by rw [c_13]; decide) (by rw [c_13]; decide) (by rw [c_13]; decide) (by decide) ?_
    refine lv_ldc2 (v := 1298231915) hx hb hF.2.2.2.1 (hF.2.2.2.2 _ cl_M_52) d_M_own_160 ?_
    exact pl_ret hx hb hr hlk (by rw [f_M_own, if_neg c_1, if_neg c_2, if_neg c_3, if_neg c_4, if_neg c_5, if_neg c_6, if_neg c_7, if_neg c_8, if_neg c_9, if_neg c_10, if_neg c_11, if_neg c_12, if_pos c_13]) d_M_own_163
  by_cases c_14 : t = 13
  · refine lv_tableIn (tgt := 164) (off := 163) hx hb d_M_own_1 (by rw [c_14]; decide) (by rw [c_14]; decide) (by rw [c_14]; decide) (by decide) ?_
    refine lv_ldc2 (v := 358233501797) hx hb hF.2.2.2.1 (hF.2.2.2.2 _ cl_M_54) d_M_own_164 ?_
    exact pl_ret hx hb hr hlk (by rw [f_M_own, if_neg c_1, if_neg c_2, if_neg c_3, if_neg c_4, if_neg c_5, if_neg c_6, if_neg c_7, if_neg c_8, if_neg c_9, if_neg c_10, if_neg c_11, if_neg c_12, if_neg c_13, if_pos c_14]) d_M_own_167
  by_cases c_15 : t = 14
  · refine lv_tableIn (tgt := 168) (off := 167) hx hb d_M_own_1 (by rw [c_15]; decide) (by rw [c_15]; decide) (by rw [c_15]; decide) (by decide) ?_
    refine lv_ldc2 (v := 74120169745509) hx hb hF.2.2.2.1 (hF.2.2.2.2 _ cl_M_56) d_M_own_168 ?_
    exact pl_ret hx hb hr hlk (by rw [f_M_own, if_neg c_1, if_neg c_2, if_neg c_3, if_neg c_4, if_neg c_5, if_neg c_6, if_neg c_7, if_neg c_8, if_neg c_9, if_neg c_10, if_neg c_11, if_neg c_12, if_neg c_13, if_neg c_14, if_pos c_15]) d_M_own_171
  by_cases c_16 : t = 15
  · refine lv_tableIn (tgt := 172) (off := 171) hx hb d_M_own_1 (by rw [c_16]; decide) (by rw [c_16]; decide) (by rw [c_16]; decide) (by decide) ?_
    refine lv_ldc2 (v := 91746765730405) hx hb hF.2.2.2.1 (hF.2.2.2.2 _ cl_M_58) d_M_own_172 ?_
    exact pl_ret hx hb hr hlk (by rw [f_M_own, if_neg c_1, if_neg c_2, if_neg c_3, if_neg c_4, if_neg c_5, if_neg c_6, if_neg c_7, if_neg c_8, if_neg c_9, if_neg c_10, if_neg c_11, if_neg c_12, if_neg c_13, if_neg c_14, if_neg c_15, if_pos c_16]) d_M_own_175
  by_cases c_17 : t = 16
  · refine lv_tableIn (tgt := 176) (off := 175) hx hb d_M_own_1 (by rw [c_17]; decide) (by rw [c_17]; decide) (by rw [c_17]; decide) (by decide) ?_
    refine lv_ldc2 (v := 289632186226) hx hb hF.2.2.2.1 (hF.2.2.2.2 _ cl_M_60) d_M_own_176 ?_
    exact pl_ret hx hb hr hlk (by rw [f_M_own, if_neg c_1, if_neg c_2, if_neg c_3, if_neg c_4, if_neg c_5, if_neg c_6, if_neg c_7, if_neg c_8, if_neg c_9, if_neg c_10, if_neg c_11, if_neg c_12, if_neg c_13, if_neg c_14, if_neg c_15, if_neg c_16, if_pos c_17]) d_M_own_179
  by_cases c_18 : t = 17
  · refine lv_tableIn (tgt := 180) (off := 179) hx hb d_M_own_1 (by rw [c_18]; decide) (by rw [c_18]; decide) (by rw [c_18]; decide) (by decide) ?_
    refine lv_ldc2 (v := 49) hx hb hF.2.2.2.1 (hF.2.2.2.2 _ cl_M_62) d_M_own_180 ?_
    exact pl_ret hx hb hr hlk (by rw [f_M_own, if_neg c_1, if_neg c_2, if_neg c_3, if_neg c_4, if_neg c_5, if_neg c_6, if_neg c_7, if_neg c_8, if_neg c_9, if_neg c_10, if_neg c_11, if_neg c_12, if_neg c_13, if_neg c_14, if_neg c_15, if_neg c_16, if_neg c_17, if_pos c_18]) d_M_own_183
  by_cases c_19 : t = 18
  · refine lv_tableIn (tgt := 184) (off := 183) hx hb d_M_own_1 (by rw [c_19]; decide) (by rw [c_19]; decide) (by rw [c_19]; decide) (by decide) ?_
    refine lv_ldc2 (v := 315385341298) hx hb hF.2.2.2.1 (hF.2.2.2.2 _ cl_M_64) d_M_own_184 ?_
    exact pl_ret hx hb hr hlk (by rw [f_M_own, if_neg c_1, if_neg c_2, if_neg c_3, if_neg c_4, if_neg c_5, if_neg c_6, if_neg c_7, if_neg c_8, if_neg c_9, if_neg c_10, if_neg c_11, if_neg c_12, if_neg c_13, if_neg c_14, if_neg c_15, if_neg c_16, if_neg c_17, if_neg c_18, if_pos c_19]) d_M_own_187
  by_cases c_20 : t = 19
  · refine lv_tableIn (tgt := 188) (off := 187) hx hb d_M_own_1 (by rw [c_20]; decide) (by rw [c_20]; decide) (by rw [c_20]; decide) (by decide) ?_
    refine lv_ldc2 (v := 1147495792) hx hb hF.2.2.2.1 (hF.2.2.2.2 _ cl_M_66) d_M_own_188 ?_
    exact pl_ret hx hb hr hlk (by rw [f_M_own, if_neg c_1, if_neg c_2, if_neg c_3, if_neg c_4, if_neg c_5, if_neg c_6, if_neg c_7, if_neg c_8, if_neg c_9, if_neg c_10, if_neg c_11, if_neg c_12, if_neg c_13, if_neg c_14, if_neg c_15, if_neg c_16, if_neg c_17, if_neg c_18, if_neg c_19, if_pos c_20]) d_M_own_191
  by_cases c_21 : t = 20
  · refine lv_tableIn (tgt := 192) (off := 191) hx hb d_M_own_1 (by rw [c_21]; decide) (by rw [c_21]; decide) (by rw [c_21]; decide) (by decide) ?_
    refine lv_ldc2 (v := 1315927141) hx hb hF.2.2.2.1 (hF.2.2.2.2 _ cl_M_68) d_M_own_192 ?_
    exact pl_ret hx hb hr hlk (by rw [f_M_own, if_neg c_1, if_neg c_2, if_neg c_3, if_neg c_4, if_neg c_5, if_neg c_6, if_neg c_7, if_neg c_8, if_neg c_9, if_neg c_10, if_neg c_11, if_neg c_12, if_neg c_13, if_neg c_14, if_neg c_15, if_neg c_16, if_neg c_17, if_neg c_18, if_neg c_19, if_neg c_20, if_pos c_21]) d_M_own_195
  by_cases c_22 : t = 21
  · refine lv_tableIn (tgt := 196) (off := 195) hx hb d_M_own_1 (by rw [c_22]; decide) (by rw [c_22]; decide) (by rw [c_22]; decide) (by decide) ?_
    refine lv_ldc2 (v := 4353912) hx hb hF.2.2.2.1 (hF.2.2.2.2 _ cl_M_70) d_M_own_196 ?_
    exact pl_ret hx hb hr hlk (by rw [f_M_own, if_neg c_1, if_neg c_2, if_neg c_3, if_neg c_4, if_neg c_5, if_neg c_6, if_neg c_7, if_neg c_8, if_neg c_9, if_neg c_10, if_neg c_11, if_neg c_12, if_neg c_13, if_neg c_14, if_neg c_15, if_neg c_16, if_neg c_17, if_neg c_18, if_neg c_19, if_neg c_20, if_neg c_21, if_pos c_22]) d_M_own_199
  by_cases c_23 : t = 22
  · refine lv_tableIn (tgt := 200) (off := 199) hx hb d_M_own_1 (by rw [c_23]; decide) (by rw [c_23]; decide) (by rw [c_23]; decide) (by decide) ?_
    refine lv_ldc2 (v := 1415670892) hx hb hF.2.2.2.1 (hF.2.2.2.2 _ cl_M_72) d_M_own_200 ?_
    exact pl_ret hx hb hr hlk (by rw [f_M_own, if_neg c_1, if_neg c_2, if_neg c_3, if_neg c_4, if_neg c_5, if_neg c_6, if_neg c_7, if_neg c_8, if_neg c_9, if_neg c_10, if_neg c_11, if_neg c_12, if_neg c_13, if_neg c_14, if_neg c_15, if_neg c_16, if_neg c_17, if_neg c_18, if_neg c_19, if_neg c_20, if_neg c_21, if_neg c_22, if_pos c_23]) d_M_own_203
  by_cases c_24 : t = 23
  · refine lv_tableIn (tgt := 204) (off := 203) hx hb d_M_own_1 (by rw [c_24]; decide) (by rw [c_24]; decide) (by rw [c_24]; decide) (by decide) ?_
    refine lv_ldc2 (v := 328286298476) hx hb hF.2.2.2.1 (hF.2.2.2.2 _ cl_M_74) d_M_own_204 ?_
    exact pl_ret hx hb hr hlk (by rw [f_M_own, if_neg c_1, if_neg c_2, if_neg c_3, if_neg c_4, if_neg c_5, if_neg c_6, if_neg c_7, if_neg c_8, if_neg c_9, if_neg c_10, if_neg c_11, if_neg c_12, if_neg c_13, if_neg c_14, if_neg c_15, if_neg c_16, if_neg c_17, if_neg c_18, if_neg c_19, if_neg c_20, if_neg c_21, if_neg c_22, if_neg c_23, if_pos c_24]) d_M_own_207
  by_cases c_25 : t = 24
  · refine lv_tableIn (tgt := 180) (off := 179) hx hb d_M_own_1 (by rw [c_25]; decide) (by rw [c_25]; decide) (by rw [c_25]; decide) (by decide) ?_
    refine lv_ldc2 (v := 49) hx hb hF.2.2.2.1 (hF.2.2.2.2 _ cl_M_62) d_M_own_180 ?_
    exact pl_ret hx hb hr hlk (by rw [f_M_own, if_neg c_1, if_neg c_2, if_neg c_3, if_neg c_4, if_neg c_5, if_neg c_6, if_neg c_7, if_neg c_8, if_neg c_9, if_neg c_10, if_neg c_11, if_neg c_12, if_neg c_13, if_neg c_14, if_neg c_15, if_neg c_16, if_neg c_17, if_neg c_18, if_neg c_19, if_neg c_20, if_neg c_21, if_neg c_22, if_neg c_23, if_neg c_24, if_pos c_25]) d_M_own_183
  refine lv_tableOut (tgt := 208) hx hb d_M_own_1 (by have := lv_neT (a := 0) c_1 (by decide); have := lv_neT (a := 1) c_2 (by decide); have := lv_neT (a := 2) c_3 (by decide); have := lv_neT (a := 3) c_4 (by decide); have := lv_neT (a := 4) c_5 (by decide); have := lv_neT (a := 5) c_6 (by decide); have := lv_neT (a := 6) c_7 (by decide); have := lv_neT (a := 7) c_8 (by decide); have := lv_neT (a := 8) c_9 (by decide); have := lv_neT (a := 9) c_10 (by decide); have := lv_neT (a := 10) c_11 (by decide); have := lv_neT (a := 11) c_12 (by decide); have := lv_neT (a := 12) c_13 (by decide); have := lv_neT (a := 13) c_14 (by decide); have := lv_neT (a := 14) c_15 (by decide); have := lv_neT (a := 15) c_16 (by decide); have := lv_neT (a := 16) c_17 (by decide); have := lv_neT (a := 17) c_18 (by decide); have := lv_neT (a := 18) c_19 (by decide); have := lv_neT (a := 19) c_20 (by decide); have := lv_neT (a := 20) c_21 (by decide); have := lv_neT (a := 21) c_22 (by decide); have := lv_neT (a := 22) c_23 (by decide); have := lv_neT (a := 23) c_24 (by decide); have := lv_neT (a := 24) c_25 (by decide); omega) (by decide) ?_
  refine lv_lconst (v := 0) hx hb d_M_own_208 (by decide) ?_
  exact pl_ret hx hb hr hlk (by rw [f_M_own, if_neg c_1, if_neg c_2, if_neg c_3, if_neg c_4, if_neg c_5, if_neg c_6, if_neg c_7, if_neg c_8, if_neg c_9, if_neg c_10, if_neg c_11, if_neg c_12, if_neg c_13, if_neg c_14, if_neg c_15, if_neg c_16, if_neg c_17, if_neg c_18, if_neg c_19, if_neg c_20, if_neg c_21, if_neg c_22, if_neg c_23, if_neg c_24, if_neg c_25]) d_M_own_209
-- M_one
set_option maxRecDepth 100000 in
theorem k_M_one : ck y_M_one b_M_one 2 (none) 1 (.instanceMethod y_M_one) := ⟨tk_of (List.mem_of_getElem? (i := 719) rfl) rfl, tk_of (List.mem_of_getElem? (i := 718) (by decide +kernel)) rfl, tk_of (List.mem_of_getElem? (i := 43) (by decide +kernel)) rfl, by decide +kernel⟩
theorem fl_M_7 : Cond.fieldLink R_M 7 R_M "made" "[I" ∈ tk := tk_of (List.mem_of_getElem? (i := 670) (by decide +kernel)) rfl
theorem fl_M_76 : Cond.fieldLink R_M 76 R_M "size" "I" ∈ tk := tk_of (List.mem_of_getElem? (i := 671) (by decide +kernel)) rfl
set_option maxHeartbeats 4000000 in
set_option maxRecDepth 100000 in
theorem c_M_one (g : gT) (l : Launch) (sz : Nat) (h0 a1 a2 a3 a4 : Nat) (n2 n3 : Int32) (xs : List Int32) (md : Nat → Int32) (hm : mt xs md) (ch : Int32) (hlen : xs.length + 1 ≤ 200) : Mg g l y_M_one b_M_one 2 (none) 0 0 0 0 [.ref h0, .int ch] [(h0, .inr (4, [.ref a1, .int (nI xs.length), .ref a2, .int n2, .ref a3, .ref a4, .int n3])), (a1, .inl (gI g, 200, .inl md))] sz (qV g (fun w1 => ∃ md' : Nat → Int32, w1 = [(h0, .inr (4, [.ref a1, .int (nI (z_M_one xs ch).length), .ref a2, .int n2, .ref a3, .ref a4, .int n3])), (a1, .inl (gI g, 200, .inl md'))] ∧ mt (z_M_one xs ch) md' ∧ (z_M_one xs ch).length ≤ xs.length + 1 ∧ xs.length ≤ (z_M_one xs ch).length)) := by
  refine mg_of (by decide) (Nat.le_of_ble_eq_true rfl) ?_
  intro p e s m below meth c ls A hx hb hF hr hlk hnm hA G hP hD hS hl
  have hK := G.2.1
  have hN := G.1
  have hl : lv_has ls 2 [(0, .ref h0), (1, .int ch)] := hl
  refine lv_aload_n hx hb d_M_one_0 rfl (lv_at hl 0 rfl) ?_
  refine va_get (D := gD g) (ci := 4) (v := .ref a1) (C := R_M) (T := F_M) (N := 7) hx hb hF.2.2.2.2 in_M hF.2.2.2.1 hK hP 0 rfl rfl 0 (by decide) (hF.2.2.2.2 _ fl_M_7) (fun _ h9 => h9) rfl d_M_one_1 ?_
  refine lv_aload_n hx hb d_M_one_4 rfl (lv_at hl 0 rfl) ?_
  refine va_get (D := gD g) (ci := 4) (v := .int (nI xs.length)) (C := R_M) (T := F_M) (N := 7) hx hb hF.2.2.2.2 in_M hF.2.2.2.1 hK hP 0 rfl rfl 1 (by decide) (hF.2.2.2.2 _ fl_M_76) (fun _ h9 => h9) rfl d_M_one_5 ?_
  refine lv_iload_n hx hb d_M_one_8 rfl (lv_at hl 1 rfl) ?_
  refine va_iast hx hb hK hP hD hS 1 0 rfl rfl (vp_in_nI (n := xs.length) (N := 200) (by omega) (by decide)) d_M_one_9 (fun H locs hP hD hS => ?_)
  have hP : va_P (gD g) classes [(h0, .inr (4, [.ref a1, .int (nI xs.length), .ref a2, .int n2, .ref a3, .ref a4, .int n3])), (a1, .inl (gI g, 200, .inl (upd md ((nI xs.length) : Int32).toNatClampNeg ch)))] H := hP
  have hD : va_D A [(h0, .inr (4, [.ref a1, .int (nI xs.length), .ref a2, .int n2, .ref a3, .ref a4, .int n3])), (a1, .inl (gI g, 200, .inl (upd md ((nI xs.length) : Int32).toNatClampNeg ch)))] := hD
  refine lv_aload_n hx hb d_M_one_10 rfl (lv_at hl 0 rfl) ?_
  refine lv_dup hx hb d_M_one_11 rfl ?_
  refine va_get (D := gD g) (ci := 4) (v := .int (nI xs.length)) (C := R_M) (T := F_M) (N := 7) hx hb hF.2.2.2.2 in_M hF.2.2.2.1 hK hP 0 rfl rfl 1 (by decide) (hF.2.2.2.2 _ fl_M_76) (fun _ h9 => h9) rfl d_M_one_12 ?_
  refine lv_iconst (v := 1) hx hb d_M_one_15 (by decide) ?_
  refine lv_iadd hx hb d_M_one_16 ?_
  refine tp_i (show ((nI xs.length) + 1) = (nI (z_M_one xs ch).length) from by rw [z_one_len]; exact nI_1 _) ?_
  refine va_put (D := gD g) (ci := 4) (v := .int (nI (z_M_one xs ch).length)) (ty := .int) (C := R_M) (T := F_M) (N := 7) hx hb hF.2.2.2.2 in_M t_M t_M_ok n_M hF.2.2.2.1 hK hP hD hS 0 rfl rfl 1 (by decide) (hF.2.2.2.2 _ fl_M_76) (fun _ h9 => h9) rfl (by decide +kernel) rfl rfl (Nat.le_of_ble_eq_true rfl) d_M_one_17 (fun H locs hP hD hS => ?_)
  have hP : va_P (gD g) classes [(h0, .inr (4, [.ref a1, .int (nI (z_M_one xs ch).length), .ref a2, .int n2, .ref a3, .ref a4, .int n3])), (a1, .inl (gI g, 200, .inl (upd md ((nI xs.length) : Int32).toNatClampNeg ch)))] H := hP
  have hD : va_D A [(h0, .inr (4, [.ref a1, .int (nI (z_M_one xs ch).length), .ref a2, .int n2, .ref a3, .ref a4, .int n3])), (a1, .inl (gI g, 200, .inl (upd md ((nI xs.length) : Int32).toNatClampNeg ch)))] := hD
  exact ret_v hx hb hr hlk hP hD hS ⟨_, rfl, mt_one hm hlen, Nat.le_of_eq (z_one_len _ _), by rw [z_one_len]; omega⟩ (by first | exact Nat.le_of_ble_eq_true rfl | (dsimp only; omega) | omega) (by first | exact Nat.le_of_ble_eq_true rfl | (dsimp only; omega) | omega) d_M_one_20
def by8 (w : Int64) (k : Int32) : Int32 := ((w.toUInt64 >>> (k.toInt64.toUInt64 &&& Int64.toUInt64 63)).toInt64.toInt32 &&& 255)
/-- the bytes below place n, those that are 0 left out -/
def zg_M_add (w : Int64) : Nat → List Int32 → List Int32
  | 0, xs => xs
  | n + 1, xs => zg_M_add w n (if by8 w (nI (8 * n)) = 0 then xs else z_M_one xs (by8 w (nI (8 * n))))
def z_M_add (xs : List Int32) (w : Int64) : List Int32 := zg_M_add w 8 xs
theorem zg_M_add_len (w : Int64) : ∀ (n : Nat) (xs : List Int32), (zg_M_add w n xs).length ≤ xs.length + n := by
  intro n
  induction n with
  | zero => intro xs; exact Nat.le_refl _
  | succ n ih =>
    intro xs
    rw [zg_M_add]
    refine Nat.le_trans (ih _) ?_
    split
    · omega
    · rw [z_one_len]; omega
theorem zg_M_add_len2 (w : Int64) : ∀ (n : Nat) (xs : List Int32), xs.length ≤ (zg_M_add w n xs).length := by
  intro n
  induction n with
  | zero => intro xs; exact Nat.le_refl _
  | succ n ih =>
    intro xs
    rw [zg_M_add]
    refine Nat.le_trans ?_ (ih _)
    split
    · omega
    · rw [z_one_len]; omega
theorem m_a8 (x : Int32) : x = x + 8 + (-8) := by rw [Int32.add_assoc, show (8 : Int32) + (-8) = 0 by decide, Int32.add_zero]
theorem m_neg8 {x : Int32} (h : x + 8 = nI (8 * 0)) : x < 0 := by
  rw [m_a8 x, h]
  decide
theorem m_s8 (n : Nat) : nI (8 * n) + (-8) + 8 = nI (8 * n) := by rw [Int32.add_assoc, show (-8 : Int32) + 8 = 0 by decide, Int32.add_zero]
theorem m_pos8 {x : Int32} {n : Nat} (h : x + 8 = nI (8 * (n + 1))) : x = nI (8 * n) := by
  rw [m_a8 x, h, show 8 * (n + 1) = 8 * n + 8 by omega, ← nI_add, Int32.add_assoc, show nI 8 + (-8) = (0 : Int32) by decide, Int32.add_zero]
set_option maxRecDepth 100000 in
theorem k_M_add : ck y_M_add b_M_add 5 (none) 1 (.instanceMethod y_M_add) := ⟨tk_of (List.mem_of_getElem? (i := 738) rfl) rfl, tk_of (List.mem_of_getElem? (i := 737) (by decide +kernel)) rfl, tk_of (List.mem_of_getElem? (i := 43) (by decide +kernel)) rfl, by decide +kernel⟩
theorem j_M_79 : Cond.methodLink R_M 79 y_M_one ∈ tk := tk_of (List.mem_of_getElem? (i := 716) (by decide +kernel)) rfl
theorem se_M_M_one : Cond.selects R_M y_M_one y_M_one ∈ tk := tk_of (List.mem_of_getElem? (i := 22) (by decide +kernel)) rfl
set_option maxHeartbeats 4000000 in
set_option maxRecDepth 100000 in
theorem lp_M_add {p : Program} {l : Launch} {e : Env} {s : State} {m : MethodId} {args : Array Value} {below : List Frame} {meth : Method} {c : Code} {g : gT} {A : Nat → Prop} {Q : State → Prop} (h0 a1 a2 a3 a4 : Nat) (n2 n3 : Int32) (w : Int64) (hx : p.tables.exec = Jvm.exec) (hb : c.code = b_M_add) (hF : CallFix p m c b_M_add 5 s args tk R_M) (hA : ∀ q, s.heap.size ≤ q → A q) (G : Gx g A s s.heap) (E : List Int32)
    (hend : ∀ (md : Nat → Int32), mt E md → ∀ (H : Heap) (locs : List Loc) (ls : Array Slot), va_P (gD g) classes [(h0, .inr (4, [.ref a1, .int (nI E.length), .ref a2, .int n2, .ref a3, .ref a4, .int n3])), (a1, .inl (gI g, 200, .inl md))] H → va_D A [(h0, .inr (4, [.ref a1, .int (nI E.length), .ref a2, .int n2, .ref a3, .ref a4, .int n3])), (a1, .inl (gI g, 200, .inl md))] → va_S A s.heap H locs → W p l e ({ frames := 1, cells := 0, slots := 0, locals := 21 }) s m args below meth c H locs 0 0 Q (F0 m 34 ls [])) :
    ∀ (n : Nat) (xs : List Int32) (md : Nat → Int32) (hm : mt xs md) (x : Int32), xs.length + n ≤ 200 → x + 8 = nI (8 * n) → zg_M_add w n xs = E → ∀ (H : Heap) (locs : List Loc), va_P (gD g) classes [(h0, .inr (4, [.ref a1, .int (nI xs.length), .ref a2, .int n2, .ref a3, .ref a4, .int n3])), (a1, .inl (gI g, 200, .inl md))] H → va_D A [(h0, .inr (4, [.ref a1, .int (nI xs.length), .ref a2, .int n2, .ref a3, .ref a4, .int n3])), (a1, .inl (gI g, 200, .inl md))] → va_S A s.heap H locs → ∀ ls : Array Slot, lv_has ls 5 [(3, .int x), (0, .ref h0), (1, .long w)] → W p l e ({ frames := 1, cells := 0, slots := 0, locals := 21 }) s m args below meth c H locs 0 0 Q (F0 m 3 ls []) := by
  have hK := G.2.1
  have hN := G.1
  intro n
  induction n with
  | zero =>
    intro xs md hm x hlen ex hp1 H locs hP hD hS ls hl
    have hneg : x < 0 := m_neg8 ex
    refine lv_iload_n hx hb d_M_add_3 rfl (lv_at hl 0 rfl) ?_
    refine lv_if_lt (tgt := 34) hx hb d_M_add_4 (by decide) (fun _ => ?_) (fun q => absurd hneg q)
    have e1 : xs = E := hp1
    subst e1
    exact hend md hm H locs ls hP hD hS
  | succ n ih =>
    intro xs md hm x hlen ex hp1 H locs hP hD hS ls hl
    have ex : x = nI (8 * n) := m_pos8 ex
    have hpos : ¬ x < 0 := by rw [ex]; exact nI_pos (by omega)
    refine lv_iload_n hx hb d_M_add_3 rfl (lv_at hl 0 rfl) ?_
    refine lv_if_lt (tgt := 34) hx hb d_M_add_4 (by decide) (fun c_1 => absurd c_1 hpos) (fun c_1 => ?_)
    refine lv_lload_n hx hb d_M_add_7 rfl (lv_at hl 2 rfl) ?_
    refine lv_iload_n hx hb d_M_add_8 rfl (lv_at hl 0 rfl) ?_
    refine lv_lushr hx hb d_M_add_9 rfl ?_
    refine lv_l2i hx hb d_M_add_10 rfl ?_
    refine lv_sipush (v := 255) hx hb d_M_add_11 (by decide) ?_
    refine lv_iand hx hb d_M_add_14 ?_
    refine tp_i (y := by8 w x) rfl ?_
    refine lv_istore (lv' := [(4, .int (by8 w x)), (3, .int x), (0, .ref h0), (1, .long w)]) hx hb d_M_add_15 hl (by decide) rfl (fun ls hl => ?_)
    refine lv_iload hx hb d_M_add_17 (lv_at hl 0 rfl) ?_
    refine lv_if_eq (tgt := 28) hx hb d_M_add_19 (by decide) (fun c_2 => ?_) (fun c_2 => ?_)
    · skip
      refine lv_iinc (v := (x + (-8))) (lv' := [(3, .int (x + (-8))), (4, .int (by8 w x)), (0, .ref h0), (1, .long w)]) hx hb d_M_add_28 hl (k := 1) rfl (by first | rfl | decide) (by decide) rfl (fun ls hl => ?_)
      refine lv_goto (tgt := 3) hx hb d_M_add_31 (by decide) ?_
      exact ih xs md hm _ (by omega) (by rw [ex]; exact m_s8 n) (by rw [zg_M_add, ← ex, if_pos c_2] at hp1; exact hp1) _ _ (hP.sub (ws' := [(h0, .inr (4, [.ref a1, .int (nI xs.length), .ref a2, .int n2, .ref a3, .ref a4, .int n3])), (a1, .inl (gI g, 200, .inl md))]) [0, 1] rfl) (hD.sub (ws' := [(h0, .inr (4, [.ref a1, .int (nI xs.length), .ref a2, .int n2, .ref a3, .ref a4, .int n3])), (a1, .inl (gI g, 200, .inl md))]) [0, 1] rfl rfl) hS _ (lv_sub hl [0, 2, 3] rfl)
    · skip
      refine lv_aload_n hx hb d_M_add_22 rfl (lv_at hl 2 rfl) ?_
      refine lv_iload hx hb d_M_add_23 (lv_at hl 0 rfl) ?_
      refine go_v (wr := []) (run_V hF (c_M_one g l _ h0 a1 a2 a3 a4 n2 n3 xs md hm (by8 w x) (by omega)) k_M_one j_M_79 se_M_M_one (va_recv hK hP (ci := 4) (q0 := 0) rfl rfl) (cw_down G hP hD hS hA [0, 1] rfl rfl) ⟨Nat.le_of_ble_eq_true rfl, Nat.le_of_ble_eq_true rfl⟩ rfl hl.1 (Nat.le_of_ble_eq_true rfl) d_M_add_25 ⟨(by first | exact Nat.le_of_ble_eq_true rfl | (dsimp only; omega) | omega), (by first | exact Nat.le_of_ble_eq_true rfl | (dsimp only; omega) | omega)⟩) hP hD hS hA [0, 1] [] rfl rfl rfl (by decide) (fun w1 H locs hp hP hD hS => ?_)
      obtain ⟨md_4, rfl, hm_4, hn_4, hn_4b⟩ := hp
      have hP : va_P (gD g) classes [(h0, .inr (4, [.ref a1, .int (nI (z_M_one xs (by8 w x)).length), .ref a2, .int n2, .ref a3, .ref a4, .int n3])), (a1, .inl (gI g, 200, .inl md_4))] H := hP
      have hD : va_D A [(h0, .inr (4, [.ref a1, .int (nI (z_M_one xs (by8 w x)).length), .ref a2, .int n2, .ref a3, .ref a4, .int n3])), (a1, .inl (gI g, 200, .inl md_4))] := hD
      refine lv_iinc (v := (x + (-8))) (lv' := [(3, .int (x + (-8))), (4, .int (by8 w x)), (0, .ref h0), (1, .long w)]) hx hb d_M_add_28 hl (k := 1) rfl (by first | rfl | decide) (by decide) rfl (fun ls hl => ?_)
      refine lv_goto (tgt := 3) hx hb d_M_add_31 (by decide) ?_
      exact ih (z_M_one xs (by8 w x)) md_4 hm_4 _ (by omega) (by rw [ex]; exact m_s8 n) (by rw [zg_M_add, ← ex, if_neg c_2] at hp1; exact hp1) _ _ (hP.sub (ws' := [(h0, .inr (4, [.ref a1, .int (nI (z_M_one xs (by8 w x)).length), .ref a2, .int n2, .ref a3, .ref a4, .int n3])), (a1, .inl (gI g, 200, .inl md_4))]) [0, 1] rfl) (hD.sub (ws' := [(h0, .inr (4, [.ref a1, .int (nI (z_M_one xs (by8 w x)).length), .ref a2, .int n2, .ref a3, .ref a4, .int n3])), (a1, .inl (gI g, 200, .inl md_4))]) [0, 1] rfl rfl) hS _ (lv_sub hl [0, 2, 3] rfl)
set_option maxHeartbeats 4000000 in
set_option maxRecDepth 100000 in
theorem c_M_add (g : gT) (l : Launch) (sz : Nat) (h0 a1 a2 a3 a4 : Nat) (n2 n3 : Int32) (xs : List Int32) (md : Nat → Int32) (hm : mt xs md) (w : Int64) (hlen : xs.length + 8 ≤ 200) : Mg g l y_M_add b_M_add 5 (none) 1 21 0 0 [.ref h0, .long w] [(h0, .inr (4, [.ref a1, .int (nI xs.length), .ref a2, .int n2, .ref a3, .ref a4, .int n3])), (a1, .inl (gI g, 200, .inl md))] sz (qV g (fun w1 => ∃ md' : Nat → Int32, w1 = [(h0, .inr (4, [.ref a1, .int (nI (z_M_add xs w).length), .ref a2, .int n2, .ref a3, .ref a4, .int n3])), (a1, .inl (gI g, 200, .inl md'))] ∧ mt (z_M_add xs w) md' ∧ (z_M_add xs w).length ≤ xs.length + 8 ∧ xs.length ≤ (z_M_add xs w).length)) := by
  refine mg_of (by decide) (Nat.le_of_ble_eq_true rfl) ?_
  intro p e s m below meth c ls A hx hb hF hr hlk hnm hA G hP hD hS hl
  have hl : lv_has ls 5 [(0, .ref h0), (1, .long w)] := hl
  refine lv_bipush (v := 56) hx hb d_M_add_0 (by decide) ?_
  refine lv_istore_n (lv' := [(3, .int 56), (0, .ref h0), (1, .long w)]) hx hb d_M_add_2 rfl hl (by decide) rfl (fun ls hl => ?_)
  exact lp_M_add h0 a1 a2 a3 a4 n2 n3 w hx hb hF hA G (z_M_add xs w) (fun md2 hm2 H locs ls hP hD hS => ret_v hx hb hr hlk hP hD hS ⟨md2, rfl, hm2, zg_M_add_len w 8 xs, zg_M_add_len2 w 8 xs⟩ (Nat.le_refl _) (Nat.le_refl _) d_M_add_34) 8 xs md hm 56 hlen (by decide) rfl _ _ hP hD hS ls hl
def z_M_addOwn (xs : List Int32) (t : Int32) : List Int32 := (if t = 11 then (z_M_add (z_M_add xs 4858365246509707887) 25189) else (z_M_add xs (f_M_own t)))
set_option maxRecDepth 100000 in
theorem k_M_addOwn : ck y_M_addOwn b_M_addOwn 2 (none) 1 (.instanceMethod y_M_addOwn) := ⟨tk_of (List.mem_of_getElem? (i := 743) rfl) rfl, tk_of (List.mem_of_getElem? (i := 742) (by decide +kernel)) rfl, tk_of (List.mem_of_getElem? (i := 43) (by decide +kernel)) rfl, by decide +kernel⟩
theorem j_M_91 : Cond.methodLink R_M 91 y_M_own ∈ tk := tk_of (List.mem_of_getElem? (i := 746) (by decide +kernel)) rfl
theorem j_M_85 : Cond.methodLink R_M 85 y_M_add ∈ tk := tk_of (List.mem_of_getElem? (i := 735) (by decide +kernel)) rfl
theorem se_M_M_add : Cond.selects R_M y_M_add y_M_add ∈ tk := tk_of (List.mem_of_getElem? (i := 25) (by decide +kernel)) rfl
theorem cl_M_83 : Cond.constantLong R_M 83 4858365246509707887 ∈ tk := tk_of (List.mem_of_getElem? (i := 744) (by decide +kernel)) rfl
theorem cl_M_89 : Cond.constantLong R_M 89 25189 ∈ tk := tk_of (List.mem_of_getElem? (i := 745) (by decide +kernel)) rfl
set_option maxHeartbeats 4000000 in
set_option maxRecDepth 100000 in
theorem c_M_addOwn (g : gT) (l : Launch) (sz : Nat) (h0 a1 a2 a3 a4 : Nat) (n2 n3 : Int32) (xs : List Int32) (md : Nat → Int32) (hm : mt xs md) (t : Int32) (hlen : xs.length + 16 ≤ 200) : Mg g l y_M_addOwn b_M_addOwn 2 (none) 2 45 0 0 [.ref h0, .int t] [(h0, .inr (4, [.ref a1, .int (nI xs.length), .ref a2, .int n2, .ref a3, .ref a4, .int n3])), (a1, .inl (gI g, 200, .inl md))] sz (qV g (fun w1 => ∃ md' : Nat → Int32, w1 = [(h0, .inr (4, [.ref a1, .int (nI (z_M_addOwn xs t).length), .ref a2, .int n2, .ref a3, .ref a4, .int n3])), (a1, .inl (gI g, 200, .inl md'))] ∧ mt (z_M_addOwn xs t) md' ∧ (z_M_addOwn xs t).length ≤ xs.length + 16 ∧ xs.length ≤ (z_M_addOwn xs t).length)) := by
  refine mg_of (by decide) (Nat.le_of_ble_eq_true rfl) ?_
  intro p e s m below meth c ls A hx hb hF hr hlk hnm hA G hP hD hS hl
  have hK := G.2.1
  have hN := G.1
  have hl : lv_has ls 2 [(0, .ref h0), (1, .int t)] := hl
  refine lv_iload_n hx hb d_M_addOwn_0 rfl (lv_at hl 1 rfl) ?_
  refine lv_bipush (v := 11) hx hb d_M_addOwn_1 (by decide) ?_
  refine lv_icmp_ne (tgt := 23) hx hb d_M_addOwn_3 (by decide) (fun c_1 => ?_) (fun c_1 => ?_)
  · skip
    refine lv_aload_n hx hb d_M_addOwn_23 rfl (lv_at hl 0 rfl) ?_
    refine lv_iload_n hx hb d_M_addOwn_24 rfl (lv_at hl 1 rfl) ?_
    refine pl_callE hF hN (c_M_own l t) k_M_own j_M_91 ⟨Nat.le_of_ble_eq_true rfl, Nat.le_of_ble_eq_true rfl⟩ rfl hl.1 (Nat.le_of_ble_eq_true rfl) d_M_addOwn_25 ⟨(by first | exact Nat.le_of_ble_eq_true rfl | (dsimp only; omega) | omega), (by first | exact Nat.le_of_ble_eq_true rfl | (dsimp only; omega) | omega)⟩ ?_
    refine go_v (wr := []) (run_V hF (c_M_add g l _ h0 a1 a2 a3 a4 n2 n3 xs md hm (f_M_own t) (by omega)) k_M_add j_M_85 se_M_M_add (va_recv hK hP (ci := 4) (q0 := 0) rfl rfl) (cw_down G hP hD hS hA [0, 1] rfl rfl) ⟨Nat.le_of_ble_eq_true rfl, Nat.le_of_ble_eq_true rfl⟩ rfl hl.1 (Nat.le_of_ble_eq_true rfl) d_M_addOwn_28 ⟨(by first | exact Nat.le_of_ble_eq_true rfl | (dsimp only; omega) | omega), (by first | exact Nat.le_of_ble_eq_true rfl | (dsimp only; omega) | omega)⟩) hP hD hS hA [0, 1] [] rfl rfl rfl (by decide) (fun w1 H locs hp hP hD hS => ?_)
    obtain ⟨md_3, rfl, hm_3, hn_3, hn_3b⟩ := hp
    have hP : va_P (gD g) classes [(h0, .inr (4, [.ref a1, .int (nI (z_M_add xs (f_M_own t)).length), .ref a2, .int n2, .ref a3, .ref a4, .int n3])), (a1, .inl (gI g, 200, .inl md_3))] H := hP
    have hD : va_D A [(h0, .inr (4, [.ref a1, .int (nI (z_M_add xs (f_M_own t)).length), .ref a2, .int n2, .ref a3, .ref a4, .int n3])), (a1, .inl (gI g, 200, .inl md_3))] := hD
    have e : z_M_addOwn xs t = (z_M_add xs (f_M_own t)) := by rw [z_M_addOwn, if_neg c_1]
    exact ret_v hx hb hr hlk (hP.sub (ws' := [(h0, .inr (4, [.ref a1, .int (nI (z_M_add xs (f_M_own t)).length), .ref a2, .int n2, .ref a3, .ref a4, .int n3])), (a1, .inl (gI g, 200, .inl md_3))]) [0, 1] rfl) (hD.sub (ws' := [(h0, .inr (4, [.ref a1, .int (nI (z_M_add xs (f_M_own t)).length), .ref a2, .int n2, .ref a3, .ref a4, .int n3])), (a1, .inl (gI g, 200, .inl md_3))]) [0, 1] rfl rfl) hS ⟨md_3, by rw [e], by rw [e]; exact hm_3, by rw [e]; omega, by rw [e]; omega⟩ (by first | exact Nat.le_of_ble_eq_true rfl | (dsimp only; omega) | omega) (by first | exact Nat.le_of_ble_eq_true rfl | (dsimp only; omega) | omega) d_M_addOwn_31
  · skip
    refine lv_aload_n hx hb d_M_addOwn_6 rfl (lv_at hl 0 rfl) ?_
    refine lv_ldc2 (v := 4858365246509707887) hx hb hF.2.2.2.1 (hF.2.2.2.2 _ cl_M_83) d_M_addOwn_7 ?_
    refine go_v (wr := []) (run_V hF (c_M_add g l _ h0 a1 a2 a3 a4 n2 n3 xs md hm 4858365246509707887 (by omega)) k_M_add j_M_85 se_M_M_add (va_recv hK hP (ci := 4) (q0 := 0) rfl rfl) (cw_down G hP hD hS hA [0, 1] rfl rfl) ⟨Nat.le_of_ble_eq_true rfl, Nat.le_of_ble_eq_true rfl⟩ rfl hl.1 (Nat.le_of_ble_eq_true rfl) d_M_addOwn_10 ⟨(by first | exact Nat.le_of_ble_eq_true rfl | (dsimp only; omega) | omega), (by first | exact Nat.le_of_ble_eq_true rfl | (dsimp only; omega) | omega)⟩) hP hD hS hA [0, 1] [] rfl rfl rfl (by decide) (fun w1 H locs hp hP hD hS => ?_)
    obtain ⟨md_5, rfl, hm_5, hn_5, hn_5b⟩ := hp
    have hP : va_P (gD g) classes [(h0, .inr (4, [.ref a1, .int (nI (z_M_add xs 4858365246509707887).length), .ref a2, .int n2, .ref a3, .ref a4, .int n3])), (a1, .inl (gI g, 200, .inl md_5))] H := hP
    have hD : va_D A [(h0, .inr (4, [.ref a1, .int (nI (z_M_add xs 4858365246509707887).length), .ref a2, .int n2, .ref a3, .ref a4, .int n3])), (a1, .inl (gI g, 200, .inl md_5))] := hD
    refine lv_aload_n hx hb d_M_addOwn_13 rfl (lv_at hl 0 rfl) ?_
    refine lv_ldc2 (v := 25189) hx hb hF.2.2.2.1 (hF.2.2.2.2 _ cl_M_89) d_M_addOwn_14 ?_
    refine go_v (wr := []) (run_V hF (c_M_add g l _ h0 a1 a2 a3 a4 n2 n3 (z_M_add xs 4858365246509707887) md_5 hm_5 25189 (by omega)) k_M_add j_M_85 se_M_M_add (va_recv hK hP (ci := 4) (q0 := 0) rfl rfl) (cw_down G hP hD hS hA [0, 1] rfl rfl) ⟨Nat.le_of_ble_eq_true rfl, Nat.le_of_ble_eq_true rfl⟩ rfl hl.1 (Nat.le_of_ble_eq_true rfl) d_M_addOwn_17 ⟨(by first | exact Nat.le_of_ble_eq_true rfl | (dsimp only; omega) | omega), (by first | exact Nat.le_of_ble_eq_true rfl | (dsimp only; omega) | omega)⟩) hP hD hS hA [0, 1] [] rfl rfl rfl (by decide) (fun w1 H locs hp hP hD hS => ?_)
    obtain ⟨md_7, rfl, hm_7, hn_7, hn_7b⟩ := hp
    have hP : va_P (gD g) classes [(h0, .inr (4, [.ref a1, .int (nI (z_M_add (z_M_add xs 4858365246509707887) 25189).length), .ref a2, .int n2, .ref a3, .ref a4, .int n3])), (a1, .inl (gI g, 200, .inl md_7))] H := hP
    have hD : va_D A [(h0, .inr (4, [.ref a1, .int (nI (z_M_add (z_M_add xs 4858365246509707887) 25189).length), .ref a2, .int n2, .ref a3, .ref a4, .int n3])), (a1, .inl (gI g, 200, .inl md_7))] := hD
    refine lv_goto (tgt := 31) hx hb d_M_addOwn_20 (by decide) ?_
    have e : z_M_addOwn xs t = (z_M_add (z_M_add xs 4858365246509707887) 25189) := by rw [z_M_addOwn, if_pos c_1]
    exact ret_v hx hb hr hlk (hP.sub (ws' := [(h0, .inr (4, [.ref a1, .int (nI (z_M_add (z_M_add xs 4858365246509707887) 25189).length), .ref a2, .int n2, .ref a3, .ref a4, .int n3])), (a1, .inl (gI g, 200, .inl md_7))]) [0, 1] rfl) (hD.sub (ws' := [(h0, .inr (4, [.ref a1, .int (nI (z_M_add (z_M_add xs 4858365246509707887) 25189).length), .ref a2, .int n2, .ref a3, .ref a4, .int n3])), (a1, .inl (gI g, 200, .inl md_7))]) [0, 1] rfl rfl) hS ⟨md_7, by rw [e], by rw [e]; exact hm_7, by rw [e]; omega, by rw [e]; omega⟩ (by first | exact Nat.le_of_ble_eq_true rfl | (dsimp only; omega) | omega) (by first | exact Nat.le_of_ble_eq_true rfl | (dsimp only; omega) | omega) d_M_addOwn_31
def z_M_addName (xs : List Int32) (t : Int32) : List Int32 := (if t = 9 then (if t ≤ 11 then (if t = 17 then (if t = 23 then (z_M_addOwn (z_M_one (z_M_one (z_M_addOwn (z_M_add (z_M_add xs 456901681454) 465491093294) (t - 1)) 36) 49) t) else (z_M_addOwn (z_M_one (z_M_addOwn (z_M_add (z_M_add xs 456901681454) 465491093294) (t - 1)) 36) t)) else (if t = 19 then (if t = 23 then (z_M_addOwn (z_M_one (z_M_one (z_M_addOwn (z_M_add (z_M_add xs 456901681454) 465491093294) (t - 1)) 36) 49) t) else (z_M_addOwn (z_M_one (z_M_addOwn (z_M_add (z_M_add xs 456901681454) 465491093294) (t - 1)) 36) t)) else (if t = 23 then (z_M_addOwn (z_M_one (z_M_add (z_M_add xs 456901681454) 465491093294) 49) t) else (z_M_addOwn (z_M_add (z_M_add xs 456901681454) 465491093294) t)))) else (if t = 17 then (if t = 23 then (z_M_addOwn (z_M_one (z_M_one (z_M_addOwn (z_M_one (z_M_addOwn (z_M_add (z_M_add xs 456901681454) 465491093294) 11) 36) (t - 1)) 36) 49) t) else (z_M_addOwn (z_M_one (z_M_addOwn (z_M_one (z_M_addOwn (z_M_add (z_M_add xs 456901681454) 465491093294) 11) 36) (t - 1)) 36) t)) else (if t = 19 then (if t = 23 then (z_M_addOwn (z_M_one (z_M_one (z_M_addOwn (z_M_one (z_M_addOwn (z_M_add (z_M_add xs 456901681454) 465491093294) 11) 36) (t - 1)) 36) 49) t) else (z_M_addOwn (z_M_one (z_M_addOwn (z_M_one (z_M_addOwn (z_M_add (z_M_add xs 456901681454) 465491093294) 11) 36) (t - 1)) 36) t)) else (if t = 23 then (z_M_addOwn (z_M_one (z_M_one (z_M_addOwn (z_M_add (z_M_add xs 456901681454) 465491093294) 11) 36) 49) t) else (z_M_addOwn (z_M_one (z_M_addOwn (z_M_add (z_M_add xs 456901681454) 465491093294) 11) 36) t))))) else (if t = 10 then (if t ≤ 11 then (if t = 17 then (if t = 23 then (z_M_addOwn (z_M_one (z_M_one (z_M_addOwn (z_M_add (z_M_add xs 456901681454) 465491093294) (t - 1)) 36) 49) t) else (z_M_addOwn (z_M_one (z_M_addOwn (z_M_add (z_M_add xs 456901681454) 465491093294) (t - 1)) 36) t)) else (if t = 19 then (if t = 23 then (z_M_addOwn (z_M_one (z_M_one (z_M_addOwn (z_M_add (z_M_add xs 456901681454) 465491093294) (t - 1)) 36) 49) t) else (z_M_addOwn (z_M_one (z_M_addOwn (z_M_add (z_M_add xs 456901681454) 465491093294) (t - 1)) 36) t)) else (if t = 23 then (z_M_addOwn (z_M_one (z_M_add (z_M_add xs 456901681454) 465491093294) 49) t) else (z_M_addOwn (z_M_add (z_M_add xs 456901681454) 465491093294) t)))) else (if t = 17 then (if t = 23 then (z_M_addOwn (z_M_one (z_M_one (z_M_addOwn (z_M_one (z_M_addOwn (z_M_add (z_M_add xs 456901681454) 465491093294) 11) 36) (t - 1)) 36) 49) t) else (z_M_addOwn (z_M_one (z_M_addOwn (z_M_one (z_M_addOwn (z_M_add (z_M_add xs 456901681454) 465491093294) 11) 36) (t - 1)) 36) t)) else (if t = 19 then (if t = 23 then (z_M_addOwn (z_M_one (z_M_one (z_M_addOwn (z_M_one (z_M_addOwn (z_M_add (z_M_add xs 456901681454) 465491093294) 11) 36) (t - 1)) 36) 49) t) else (z_M_addOwn (z_M_one (z_M_addOwn (z_M_one (z_M_addOwn (z_M_add (z_M_add xs 456901681454) 465491093294) 11) 36) (t - 1)) 36) t)) else (if t = 23 then (z_M_addOwn (z_M_one (z_M_one (z_M_addOwn (z_M_add (z_M_add xs 456901681454) 465491093294) 11) 36) 49) t) else (z_M_addOwn (z_M_one (z_M_addOwn (z_M_add (z_M_add xs 456901681454) 465491093294) 11) 36) t))))) else (if t ≤ 11 then (if t = 17 then (if t = 23 then (z_M_addOwn (z_M_one (z_M_one (z_M_addOwn xs (t - 1)) 36) 49) t) else (z_M_addOwn (z_M_one (z_M_addOwn xs (t - 1)) 36) t)) else (if t = 19 then (if t = 23 then (z_M_addOwn (z_M_one (z_M_one (z_M_addOwn xs (t - 1)) 36) 49) t) else (z_M_addOwn (z_M_one (z_M_addOwn xs (t - 1)) 36) t)) else (if t = 23 then (z_M_addOwn (z_M_one xs 49) t) else (z_M_addOwn xs t)))) else (if t = 17 then (if t = 23 then (z_M_addOwn (z_M_one (z_M_one (z_M_addOwn (z_M_one (z_M_addOwn xs 11) 36) (t - 1)) 36) 49) t) else (z_M_addOwn (z_M_one (z_M_addOwn (z_M_one (z_M_addOwn xs 11) 36) (t - 1)) 36) t)) else (if t = 19 then (if t = 23 then (z_M_addOwn (z_M_one (z_M_one (z_M_addOwn (z_M_one (z_M_addOwn xs 11) 36) (t - 1)) 36) 49) t) else (z_M_addOwn (z_M_one (z_M_addOwn (z_M_one (z_M_addOwn xs 11) 36) (t - 1)) 36) t)) else (if t = 23 then (z_M_addOwn (z_M_one (z_M_one (z_M_addOwn xs 11) 36) 49) t) else (z_M_addOwn (z_M_one (z_M_addOwn xs 11) 36) t)))))))
set_option maxRecDepth 100000 in
theorem k_M_addName : ck y_M_addName b_M_addName 2 (none) 1 (.instanceMethod y_M_addName) := ⟨tk_of (List.mem_of_getElem? (i := 733) rfl) rfl, tk_of (List.mem_of_getElem? (i := 732) (by decide +kernel)) rfl, tk_of (List.mem_of_getElem? (i := 43) (by decide +kernel)) rfl, by decide +kernel⟩
theorem cl_M_95 : Cond.constantLong R_M 95 456901681454 ∈ tk := tk_of (List.mem_of_getElem? (i := 734) (by decide +kernel)) rfl
theorem cl_M_97 : Cond.constantLong R_M 97 465491093294 ∈ tk := tk_of (List.mem_of_getElem? (i := 739) (by decide +kernel)) rfl
theorem j_M_99 : Cond.methodLink R_M 99 y_M_addOwn ∈ tk := tk_of (List.mem_of_getElem? (i := 740) (by decide +kernel)) rfl
theorem se_M_M_addOwn : Cond.selects R_M y_M_addOwn y_M_addOwn ∈ tk := tk_of (List.mem_of_getElem? (i := 26) (by decide +kernel)) rfl
set_option maxHeartbeats 4000000 in
set_option maxRecDepth 100000 in
theorem c_M_addName (g : gT) (l : Launch) (sz : Nat) (h0 a1 a2 a3 a4 : Nat) (n2 n3 : Int32) (xs : List Int32) (md : Nat → Int32) (hm : mt xs md) (t : Int32) (hlen : xs.length + 67 ≤ 200) : Mg g l y_M_addName b_M_addName 2 (none) 3 66 0 0 [.ref h0, .int t] [(h0, .inr (4, [.ref a1, .int (nI xs.length), .ref a2, .int n2, .ref a3, .ref a4, .int n3])), (a1, .inl (gI g, 200, .inl md))] sz (qV g (fun w1 => ∃ md' : Nat → Int32, w1 = [(h0, .inr (4, [.ref a1, .int (nI (z_M_addName xs t).length), .ref a2, .int n2, .ref a3, .ref a4, .int n3])), (a1, .inl (gI g, 200, .inl md'))] ∧ mt (z_M_addName xs t) md' ∧ (z_M_addName xs t).length ≤ xs.length + 67 ∧ xs.length ≤ (z_M_addName xs t).length)) := by
  refine mg_of (by decide) (Nat.le_of_ble_eq_true rfl) ?_
  intro p e s m below meth c ls A hx hb hF hr hlk hnm hA G hP hD hS hl
  have hK := G.2.1
  have hN := G.1
  have hl : lv_has ls 2 [(0, .ref h0), (1, .int t)] := hl
  refine lv_iload_n hx hb d_M_addName_0 rfl (lv_at hl 1 rfl) ?_
  refine lv_bipush (v := 9) hx hb d_M_addName_1 (by decide) ?_
  refine lv_icmp_eq (tgt := 12) hx hb d_M_addName_3 (by decide) (fun c_1 => ?_) (fun c_1 => ?_)
  · skip
    refine lv_aload_n hx hb d_M_addName_12 rfl (lv_at hl 0 rfl) ?_
    refine lv_ldc2 (v := 456901681454) hx hb hF.2.2.2.1 (hF.2.2.2.2 _ cl_M_95) d_M_addName_13 ?_
    refine go_v (wr := []) (run_V hF (c_M_add g l _ h0 a1 a2 a3 a4 n2 n3 xs md hm 456901681454 (by omega)) k_M_add j_M_85 se_M_M_add (va_recv hK hP (ci := 4) (q0 := 0) rfl rfl) (cw_down G hP hD hS hA [0, 1] rfl rfl) ⟨Nat.le_of_ble_eq_true rfl, Nat.le_of_ble_eq_true rfl⟩ rfl hl.1 (Nat.le_of_ble_eq_true rfl) d_M_addName_16 ⟨(by first | exact Nat.le_of_ble_eq_true rfl | (dsimp only; omega) | omega), (by first | exact Nat.le_of_ble_eq_true rfl | (dsimp only; omega) | omega)⟩) hP hD hS hA [0, 1] [] rfl rfl rfl (by decide) (fun w1 H locs hp hP hD hS => ?_)
    obtain ⟨md_3, rfl, hm_3, hn_3, hn_3b⟩ := hp
    have hP : va_P (gD g) classes [(h0, .inr (4, [.ref a1, .int (nI (z_M_add xs 456901681454).length), .ref a2, .int n2, .ref a3, .ref a4, .int n3])), (a1, .inl (gI g, 200, .inl md_3))] H := hP
    have hD : va_D A [(h0, .inr (4, [.ref a1, .int (nI (z_M_add xs 456901681454).length), .ref a2, .int n2, .ref a3, .ref a4, .int n3])), (a1, .inl (gI g, 200, .inl md_3))] := hD
    refine lv_aload_n hx hb d_M_addName_19 rfl (lv_at hl 0 rfl) ?_
    refine lv_ldc2 (v := 465491093294) hx hb hF.2.2.2.1 (hF.2.2.2.2 _ cl_M_97) d_M_addName_20 ?_
    refine go_v (wr := []) (run_V hF (c_M_add g l _ h0 a1 a2 a3 a4 n2 n3 (z_M_add xs 456901681454) md_3 hm_3 465491093294 (by omega)) k_M_add j_M_85 se_M_M_add (va_recv hK hP (ci := 4) (q0 := 0) rfl rfl) (cw_down G hP hD hS hA [0, 1] rfl rfl) ⟨Nat.le_of_ble_eq_true rfl, Nat.le_of_ble_eq_true rfl⟩ rfl hl.1 (Nat.le_of_ble_eq_true rfl) d_M_addName_23 ⟨(by first | exact Nat.le_of_ble_eq_true rfl | (dsimp only; omega) | omega), (by first | exact Nat.le_of_ble_eq_true rfl | (dsimp only; omega) | omega)⟩) hP hD hS hA [0, 1] [] rfl rfl rfl (by decide) (fun w1 H locs hp hP hD hS => ?_)
    obtain ⟨md_5, rfl, hm_5, hn_5, hn_5b⟩ := hp
    have hP : va_P (gD g) classes [(h0, .inr (4, [.ref a1, .int (nI (z_M_add (z_M_add xs 456901681454) 465491093294).length), .ref a2, .int n2, .ref a3, .ref a4, .int n3])), (a1, .inl (gI g, 200, .inl md_5))] H := hP
    have hD : va_D A [(h0, .inr (4, [.ref a1, .int (nI (z_M_add (z_M_add xs 456901681454) 465491093294).length), .ref a2, .int n2, .ref a3, .ref a4, .int n3])), (a1, .inl (gI g, 200, .inl md_5))] := hD
    refine lv_iload_n hx hb d_M_addName_26 rfl (lv_at hl 1 rfl) ?_
    refine lv_bipush (v := 11) hx hb d_M_addName_27 (by decide) ?_
    refine lv_icmp_le (tgt := 44) hx hb d_M_addName_29 (by decide) (fun c_6 => ?_) (fun c_6 => ?_)
    · skip
      refine lv_iload_n hx hb d_M_addName_44 rfl (lv_at hl 1 rfl) ?_
      refine lv_bipush (v := 17) hx hb d_M_addName_45 (by decide) ?_
      refine lv_icmp_eq (tgt := 56) hx hb d_M_addName_47 (by decide) (fun c_7 => ?_) (fun c_7 => ?_)
      · skip
        refine lv_aload_n hx hb d_M_addName_56 rfl (lv_at hl 0 rfl) ?_
        refine lv_iload_n hx hb d_M_addName_57 rfl (lv_at hl 1 rfl) ?_
        refine lv_iconst (v := 1) hx hb d_M_addName_58 (by decide) ?_
        refine lv_isub hx hb d_M_addName_59 ?_
        refine go_v (wr := []) (run_V hF (c_M_addOwn g l _ h0 a1 a2 a3 a4 n2 n3 (z_M_add (z_M_add xs 456901681454) 465491093294) md_5 hm_5 (t - 1) (by omega)) k_M_addOwn j_M_99 se_M_M_addOwn (va_recv hK hP (ci := 4) (q0 := 0) rfl rfl) (cw_down G hP hD hS hA [0, 1] rfl rfl) ⟨Nat.le_of_ble_eq_true rfl, Nat.le_of_ble_eq_true rfl⟩ rfl hl.1 (Nat.le_of_ble_eq_true rfl) d_M_addName_60 ⟨(by first | exact Nat.le_of_ble_eq_true rfl | (dsimp only; omega) | omega), (by first | exact Nat.le_of_ble_eq_true rfl | (dsimp only; omega) | omega)⟩) hP hD hS hA [0, 1] [] rfl rfl rfl (by decide) (fun w1 H locs hp hP hD hS => ?_)
        obtain ⟨md_9, rfl, hm_9, hn_9, hn_9b⟩ := hp
        have hP : va_P (gD g) classes [(h0, .inr (4, [.ref a1, .int (nI (z_M_addOwn (z_M_add (z_M_add xs 456901681454) 465491093294) (t - 1)).length), .ref a2, .int n2, .ref a3, .ref a4, .int n3])), (a1, .inl (gI g, 200, .inl md_9))] H := hP
        have hD : va_D A [(h0, .inr (4, [.ref a1, .int (nI (z_M_addOwn (z_M_add (z_M_add xs 456901681454) 465491093294) (t - 1)).length), .ref a2, .int n2, .ref a3, .ref a4, .int n3])), (a1, .inl (gI g, 200, .inl md_9))] := hD
        refine lv_aload_n hx hb d_M_addName_63 rfl (lv_at hl 0 rfl) ?_
        refine lv_bipush (v := 36) hx hb d_M_addName_64 (by decide) ?_
        refine go_v (wr := []) (run_V hF (c_M_one g l _ h0 a1 a2 a3 a4 n2 n3 (z_M_addOwn (z_M_add (z_M_add xs 456901681454) 465491093294) (t - 1)) md_9 hm_9 36 (by omega)) k_M_one j_M_79 se_M_M_one (va_recv hK hP (ci := 4) (q0 := 0) rfl rfl) (cw_down G hP hD hS hA [0, 1] rfl rfl) ⟨Nat.le_of_ble_eq_true rfl, Nat.le_of_ble_eq_true rfl⟩ rfl hl.1 (Nat.le_of_ble_eq_true rfl) d_M_addName_66 ⟨(by first | exact Nat.le_of_ble_eq_true rfl | (dsimp only; omega) | omega), (by first | exact Nat.le_of_ble_eq_true rfl | (dsimp only; omega) | omega)⟩) hP hD hS hA [0, 1] [] rfl rfl rfl (by decide) (fun w1 H locs hp hP hD hS => ?_)
        obtain ⟨md_11, rfl, hm_11, hn_11, hn_11b⟩ := hp
        have hP : va_P (gD g) classes [(h0, .inr (4, [.ref a1, .int (nI (z_M_one (z_M_addOwn (z_M_add (z_M_add xs 456901681454) 465491093294) (t - 1)) 36).length), .ref a2, .int n2, .ref a3, .ref a4, .int n3])), (a1, .inl (gI g, 200, .inl md_11))] H := hP
        have hD : va_D A [(h0, .inr (4, [.ref a1, .int (nI (z_M_one (z_M_addOwn (z_M_add (z_M_add xs 456901681454) 465491093294) (t - 1)) 36).length), .ref a2, .int n2, .ref a3, .ref a4, .int n3])), (a1, .inl (gI g, 200, .inl md_11))] := hD
        refine lv_iload_n hx hb d_M_addName_69 rfl (lv_at hl 1 rfl) ?_
        refine lv_bipush (v := 23) hx hb d_M_addName_70 (by decide) ?_
        refine lv_icmp_ne (tgt := 81) hx hb d_M_addName_72 (by decide) (fun c_12 => ?_) (fun c_12 => ?_)
        · skip
          refine lv_aload_n hx hb d_M_addName_81 rfl (lv_at hl 0 rfl) ?_
          refine lv_iload_n hx hb d_M_addName_82 rfl (lv_at hl 1 rfl) ?_
          refine go_v (wr := []) (run_V hF (c_M_addOwn g l _ h0 a1 a2 a3 a4 n2 n3 (z_M_one (z_M_addOwn (z_M_add (z_M_add xs 456901681454) 465491093294) (t - 1)) 36) md_11 hm_11 t (by omega)) k_M_addOwn j_M_99 se_M_M_addOwn (va_recv hK hP (ci := 4) (q0 := 0) rfl rfl) (cw_down G hP hD hS hA [0, 1] rfl rfl) ⟨Nat.le_of_ble_eq_true rfl, Nat.le_of_ble_eq_true rfl⟩ rfl hl.1 (Nat.le_of_ble_eq_true rfl) d_M_addName_83 ⟨(by first | exact Nat.le_of_ble_eq_true rfl | (dsimp only; omega) | omega), (by first | exact Nat.le_of_ble_eq_true rfl | (dsimp only; omega) | omega)⟩) hP hD hS hA [0, 1] [] rfl rfl rfl (by decide) (fun w1 H locs hp hP hD hS => ?_)
          obtain ⟨md_14, rfl, hm_14, hn_14, hn_14b⟩ := hp
          have hP : va_P (gD g) classes [(h0, .inr (4, [.ref a1, .int (nI (z_M_addOwn (z_M_one (z_M_addOwn (z_M_add (z_M_add xs 456901681454) 465491093294) (t - 1)) 36) t).length), .ref a2, .int n2, .ref a3, .ref a4, .int n3])), (a1, .inl (gI g, 200, .inl md_14))] H := hP
          have hD : va_D A [(h0, .inr (4, [.ref a1, .int (nI (z_M_addOwn (z_M_one (z_M_addOwn (z_M_add (z_M_add xs 456901681454) 465491093294) (t - 1)) 36) t).length), .ref a2, .int n2, .ref a3, .ref a4, .int n3])), (a1, .inl (gI g, 200, .inl md_14))] := hD
          have e : z_M_addName xs t = (z_M_addOwn (z_M_one (z_M_addOwn (z_M_add (z_M_add xs 456901681454) 465491093294) (t - 1)) 36) t) := by rw [z_M_addName, if_pos c_1, if_pos c_6, if_pos c_7, if_neg c_12]
          exact ret_v hx hb hr hlk (hP.sub (ws' := [(h0, .inr (4, [.ref a1, .int (nI (z_M_addOwn (z_M_one (z_M_addOwn (z_M_add (z_M_add xs 456901681454) 465491093294) (t - 1)) 36) t).length), .ref a2, .int n2, .ref a3, .ref a4, .int n3])), (a1, .inl (gI g, 200, .inl md_14))]) [0, 1] rfl) (hD.sub (ws' := [(h0, .inr (4, [.ref a1, .int (nI (z_M_addOwn (z_M_one (z_M_addOwn (z_M_add (z_M_add xs 456901681454) 465491093294) (t - 1)) 36) t).length), .ref a2, .int n2, .ref a3, .ref a4, .int n3])), (a1, .inl (gI g, 200, .inl md_14))]) [0, 1] rfl rfl) hS ⟨md_14, by rw [e], by rw [e]; exact hm_14, by rw [e]; omega, by rw [e]; omega⟩ (by first | exact Nat.le_of_ble_eq_true rfl | (dsimp only; omega) | omega) (by first | exact Nat.le_of_ble_eq_true rfl | (dsimp only; omega) | omega) d_M_addName_86
        · skip
          refine lv_aload_n hx hb d_M_addName_75 rfl (lv_at hl 0 rfl) ?_
          refine lv_bipush (v := 49) hx hb d_M_addName_76 (by decide) ?_
          refine go_v (wr := []) (run_V hF (c_M_one g l _ h0 a1 a2 a3 a4 n2 n3 (z_M_one (z_M_addOwn (z_M_add (z_M_add xs 456901681454) 465491093294) (t - 1)) 36) md_11 hm_11 49 (by omega)) k_M_one j_M_79 se_M_M_one (va_recv hK hP (ci := 4) (q0 := 0) rfl rfl) (cw_down G hP hD hS hA [0, 1] rfl rfl) ⟨Nat.le_of_ble_eq_true rfl, Nat.le_of_ble_eq_true rfl⟩ rfl hl.1 (Nat.le_of_ble_eq_true rfl) d_M_addName_78 ⟨(by first | exact Nat.le_of_ble_eq_true rfl | (dsimp only; omega) | omega), (by first | exact Nat.le_of_ble_eq_true rfl | (dsimp only; omega) | omega)⟩) hP hD hS hA [0, 1] [] rfl rfl rfl (by decide) (fun w1 H locs hp hP hD hS => ?_)
          obtain ⟨md_16, rfl, hm_16, hn_16, hn_16b⟩ := hp
          have hP : va_P (gD g) classes [(h0, .inr (4, [.ref a1, .int (nI (z_M_one (z_M_one (z_M_addOwn (z_M_add (z_M_add xs 456901681454) 465491093294) (t - 1)) 36) 49).length), .ref a2, .int n2, .ref a3, .ref a4, .int n3])), (a1, .inl (gI g, 200, .inl md_16))] H := hP
          have hD : va_D A [(h0, .inr (4, [.ref a1, .int (nI (z_M_one (z_M_one (z_M_addOwn (z_M_add (z_M_add xs 456901681454) 465491093294) (t - 1)) 36) 49).length), .ref a2, .int n2, .ref a3, .ref a4, .int n3])), (a1, .inl (gI g, 200, .inl md_16))] := hD
          refine lv_aload_n hx hb d_M_addName_81 rfl (lv_at hl 0 rfl) ?_
          refine lv_iload_n hx hb d_M_addName_82 rfl (lv_at hl 1 rfl) ?_
          refine go_v (wr := []) (run_V hF (c_M_addOwn g l _ h0 a1 a2 a3 a4 n2 n3 (z_M_one (z_M_one (z_M_addOwn (z_M_add (z_M_add xs 456901681454) 465491093294) (t - 1)) 36) 49) md_16 hm_16 t (by omega)) k_M_addOwn j_M_99 se_M_M_addOwn (va_recv hK hP (ci := 4) (q0 := 0) rfl rfl) (cw_down G hP hD hS hA [0, 1] rfl rfl) ⟨Nat.le_of_ble_eq_true rfl, Nat.le_of_ble_eq_true rfl⟩ rfl hl.1 (Nat.le_of_ble_eq_true rfl) d_M_addName_83 ⟨(by first | exact Nat.le_of_ble_eq_true rfl | (dsimp only; omega) | omega), (by first | exact Nat.le_of_ble_eq_true rfl | (dsimp only; omega) | omega)⟩) hP hD hS hA [0, 1] [] rfl rfl rfl (by decide) (fun w1 H locs hp hP hD hS => ?_)
          obtain ⟨md_18, rfl, hm_18, hn_18, hn_18b⟩ := hp
          have hP : va_P (gD g) classes [(h0, .inr (4, [.ref a1, .int (nI (z_M_addOwn (z_M_one (z_M_one (z_M_addOwn (z_M_add (z_M_add xs 456901681454) 465491093294) (t - 1)) 36) 49) t).length), .ref a2, .int n2, .ref a3, .ref a4, .int n3])), (a1, .inl (gI g, 200, .inl md_18))] H := hP
          have hD : va_D A [(h0, .inr (4, [.ref a1, .int (nI (z_M_addOwn (z_M_one (z_M_one (z_M_addOwn (z_M_add (z_M_add xs 456901681454) 465491093294) (t - 1)) 36) 49) t).length), .ref a2, .int n2, .ref a3, .ref a4, .int n3])), (a1, .inl (gI g, 200, .inl md_18))] := hD
          have e : z_M_addName xs t = (z_M_addOwn (z_M_one (z_M_one (z_M_addOwn (z_M_add (z_M_add xs 456901681454) 465491093294) (t - 1)) 36) 49) t) := by rw [z_M_addName, if_pos c_1, if_pos c_6, if_pos c_7, if_pos c_12]
          exact ret_v hx hb hr hlk (hP.sub (ws' := [(h0, .inr (4, [.ref a1, .int (nI (z_M_addOwn (z_M_one (z_M_one (z_M_addOwn (z_M_add (z_M_add xs 456901681454) 465491093294) (t - 1)) 36) 49) t).length), .ref a2, .int n2, .ref a3, .ref a4, .int n3])), (a1, .inl (gI g, 200, .inl md_18))]) [0, 1] rfl) (hD.sub (ws' := [(h0, .inr (4, [.ref a1, .int (nI (z_M_addOwn (z_M_one (z_M_one (z_M_addOwn (z_M_add (z_M_add xs 456901681454) 465491093294) (t - 1)) 36) 49) t).length), .ref a2, .int n2, .ref a3, .ref a4, .int n3])), (a1, .inl (gI g, 200, .inl md_18))]) [0, 1] rfl rfl) hS ⟨md_18, by rw [e], by rw [e]; exact hm_18, by rw [e]; omega, by rw [e]; omega⟩ (by first | exact Nat.le_of_ble_eq_true rfl | (dsimp only; omega) | omega) (by first | exact Nat.le_of_ble_eq_true rfl | (dsimp only; omega) | omega) d_M_addName_86
      · skip
        refine lv_iload_n hx hb d_M_addName_50 rfl (lv_at hl 1 rfl) ?_
        refine lv_bipush (v := 19) hx hb d_M_addName_51 (by decide) ?_
        refine lv_icmp_ne (tgt := 69) hx hb d_M_addName_53 (by decide) (fun c_19 => ?_) (fun c_19 => ?_)
        · skip
          refine lv_iload_n hx hb d_M_addName_69 rfl (lv_at hl 1 rfl) ?_
          refine lv_bipush (v := 23) hx hb d_M_addName_70 (by decide) ?_
          refine lv_icmp_ne (tgt := 81) hx hb d_M_addName_72 (by decide) (fun c_20 => ?_) (fun c_20 => ?_)
          · skip
            refine lv_aload_n hx hb d_M_addName_81 rfl (lv_at hl 0 rfl) ?_
            refine lv_iload_n hx hb d_M_addName_82 rfl (lv_at hl 1 rfl) ?_
            refine go_v (wr := []) (run_V hF (c_M_addOwn g l _ h0 a1 a2 a3 a4 n2 n3 (z_M_add (z_M_add xs 456901681454) 465491093294) md_5 hm_5 t (by omega)) k_M_addOwn j_M_99 se_M_M_addOwn (va_recv hK hP (ci := 4) (q0 := 0) rfl rfl) (cw_down G hP hD hS hA [0, 1] rfl rfl) ⟨Nat.le_of_ble_eq_true rfl, Nat.le_of_ble_eq_true rfl⟩ rfl hl.1 (Nat.le_of_ble_eq_true rfl) d_M_addName_83 ⟨(by first | exact Nat.le_of_ble_eq_true rfl | (dsimp only; omega) | omega), (by first | exact Nat.le_of_ble_eq_true rfl | (dsimp only; omega) | omega)⟩) hP hD hS hA [0, 1] [] rfl rfl rfl (by decide) (fun w1 H locs hp hP hD hS => ?_)
            obtain ⟨md_22, rfl, hm_22, hn_22, hn_22b⟩ := hp
            have hP : va_P (gD g) classes [(h0, .inr (4, [.ref a1, .int (nI (z_M_addOwn (z_M_add (z_M_add xs 456901681454) 465491093294) t).length), .ref a2, .int n2, .ref a3, .ref a4, .int n3])), (a1, .inl (gI g, 200, .inl md_22))] H := hP
            have hD : va_D A [(h0, .inr (4, [.ref a1, .int (nI (z_M_addOwn (z_M_add (z_M_add xs 456901681454) 465491093294) t).length), .ref a2, .int n2, .ref a3, .ref a4, .int n3])), (a1, .inl (gI g, 200, .inl md_22))] := hD
            have e : z_M_addName xs t = (z_M_addOwn (z_M_add (z_M_add xs 456901681454) 465491093294) t) := by rw [z_M_addName, if_pos c_1, if_pos c_6, if_neg c_7, if_neg c_19, if_neg c_20]
            exact ret_v hx hb hr hlk (hP.sub (ws' := [(h0, .inr (4, [.ref a1, .int (nI (z_M_addOwn (z_M_add (z_M_add xs 456901681454) 465491093294) t).length), .ref a2, .int n2, .ref a3, .ref a4, .int n3])), (a1, .inl (gI g, 200, .inl md_22))]) [0, 1] rfl) (hD.sub (ws' := [(h0, .inr (4, [.ref a1, .int (nI (z_M_addOwn (z_M_add (z_M_add xs 456901681454) 465491093294) t).length), .ref a2, .int n2, .ref a3, .ref a4, .int n3])), (a1, .inl (gI g, 200, .inl md_22))]) [0, 1] rfl rfl) hS ⟨md_22, by rw [e], by rw [e]; exact hm_22, by rw [e]; omega, by rw [e]; omega⟩ (by first | exact Nat.le_of_ble_eq_true rfl | (dsimp only; omega) | omega) (by first | exact Nat.le_of_ble_eq_true rfl | (dsimp only; omega) | omega) d_M_addName_86
          · skip
            refine lv_aload_n hx hb d_M_addName_75 rfl (lv_at hl 0 rfl) ?_
            refine lv_bipush (v := 49) hx hb d_M_addName_76 (by decide) ?_
            refine go_v (wr := []) (run_V hF (c_M_one g l _ h0 a1 a2 a3 a4 n2 n3 (z_M_add (z_M_add xs 456901681454) 465491093294) md_5 hm_5 49 (by omega)) k_M_one j_M_79 se_M_M_one (va_recv hK hP (ci := 4) (q0 := 0) rfl rfl) (cw_down G hP hD hS hA [0, 1] rfl rfl) ⟨Nat.le_of_ble_eq_true rfl, Nat.le_of_ble_eq_true rfl⟩ rfl hl.1 (Nat.le_of_ble_eq_true rfl) d_M_addName_78 ⟨(by first | exact Nat.le_of_ble_eq_true rfl | (dsimp only; omega) | omega), (by first | exact Nat.le_of_ble_eq_true rfl | (dsimp only; omega) | omega)⟩) hP hD hS hA [0, 1] [] rfl rfl rfl (by decide) (fun w1 H locs hp hP hD hS => ?_)
            obtain ⟨md_24, rfl, hm_24, hn_24, hn_24b⟩ := hp
            have hP : va_P (gD g) classes [(h0, .inr (4, [.ref a1, .int (nI (z_M_one (z_M_add (z_M_add xs 456901681454) 465491093294) 49).length), .ref a2, .int n2, .ref a3, .ref a4, .int n3])), (a1, .inl (gI g, 200, .inl md_24))] H := hP
            have hD : va_D A [(h0, .inr (4, [.ref a1, .int (nI (z_M_one (z_M_add (z_M_add xs 456901681454) 465491093294) 49).length), .ref a2, .int n2, .ref a3, .ref a4, .int n3])), (a1, .inl (gI g, 200, .inl md_24))] := hD
            refine lv_aload_n hx hb d_M_addName_81 rfl (lv_at hl 0 rfl) ?_
            refine lv_iload_n hx hb d_M_addName_82 rfl (lv_at hl 1 rfl) ?_
            refine go_v (wr := []) (run_V hF (c_M_addOwn g l _ h0 a1 a2 a3 a4 n2 n3 (z_M_one (z_M_add (z_M_add xs 456901681454) 465491093294) 49) md_24 hm_24 t (by omega)) k_M_addOwn j_M_99 se_M_M_addOwn (va_recv hK hP (ci := 4) (q0 := 0) rfl rfl) (cw_down G hP hD hS hA [0, 1] rfl rfl) ⟨Nat.le_of_ble_eq_true rfl, Nat.le_of_ble_eq_true rfl⟩ rfl hl.1 (Nat.le_of_ble_eq_true rfl) d_M_addName_83 ⟨(by first | exact Nat.le_of_ble_eq_true rfl | (dsimp only; omega) | omega), (by first | exact Nat.le_of_ble_eq_true rfl | (dsimp only; omega) | omega)⟩) hP hD hS hA [0, 1] [] rfl rfl rfl (by decide) (fun w1 H locs hp hP hD hS => ?_)
            obtain ⟨md_26, rfl, hm_26, hn_26, hn_26b⟩ := hp
            have hP : va_P (gD g) classes [(h0, .inr (4, [.ref a1, .int (nI (z_M_addOwn (z_M_one (z_M_add (z_M_add xs 456901681454) 465491093294) 49) t).length), .ref a2, .int n2, .ref a3, .ref a4, .int n3])), (a1, .inl (gI g, 200, .inl md_26))] H := hP
            have hD : va_D A [(h0, .inr (4, [.ref a1, .int (nI (z_M_addOwn (z_M_one (z_M_add (z_M_add xs 456901681454) 465491093294) 49) t).length), .ref a2, .int n2, .ref a3, .ref a4, .int n3])), (a1, .inl (gI g, 200, .inl md_26))] := hD
            have e : z_M_addName xs t = (z_M_addOwn (z_M_one (z_M_add (z_M_add xs 456901681454) 465491093294) 49) t) := by rw [z_M_addName, if_pos c_1, if_pos c_6, if_neg c_7, if_neg c_19, if_pos c_20]
            exact ret_v hx hb hr hlk (hP.sub (ws' := [(h0, .inr (4, [.ref a1, .int (nI (z_M_addOwn (z_M_one (z_M_add (z_M_add xs 456901681454) 465491093294) 49) t).length), .ref a2, .int n2, .ref a3, .ref a4, .int n3])), (a1, .inl (gI g, 200, .inl md_26))]) [0, 1] rfl) (hD.sub (ws' := [(h0, .inr (4, [.ref a1, .int (nI (z_M_addOwn (z_M_one (z_M_add (z_M_add xs 456901681454) 465491093294) 49) t).length), .ref a2, .int n2, .ref a3, .ref a4, .int n3])), (a1, .inl (gI g, 200, .inl md_26))]) [0, 1] rfl rfl) hS ⟨md_26, by rw [e], by rw [e]; exact hm_26, by rw [e]; omega, by rw [e]; omega⟩ (by first | exact Nat.le_of_ble_eq_true rfl | (dsimp only; omega) | omega) (by first | exact Nat.le_of_ble_eq_true rfl | (dsimp only; omega) | omega) d_M_addName_86
        · skip
          refine lv_aload_n hx hb d_M_addName_56 rfl (lv_at hl 0 rfl) ?_
          refine lv_iload_n hx hb d_M_addName_57 rfl (lv_at hl 1 rfl) ?_
          refine lv_iconst (v := 1) hx hb d_M_addName_58 (by decide) ?_
          refine lv_isub hx hb d_M_addName_59 ?_
          refine go_v (wr := []) (run_V hF (c_M_addOwn g l _ h0 a1 a2 a3 a4 n2 n3 (z_M_add (z_M_add xs 456901681454) 465491093294) md_5 hm_5 (t - 1) (by omega)) k_M_addOwn j_M_99 se_M_M_addOwn (va_recv hK hP (ci := 4) (q0 := 0) rfl rfl) (cw_down G hP hD hS hA [0, 1] rfl rfl) ⟨Nat.le_of_ble_eq_true rfl, Nat.le_of_ble_eq_true rfl⟩ rfl hl.1 (Nat.le_of_ble_eq_true rfl) d_M_addName_60 ⟨(by first | exact Nat.le_of_ble_eq_true rfl | (dsimp only; omega) | omega), (by first | exact Nat.le_of_ble_eq_true rfl | (dsimp only; omega) | omega)⟩) hP hD hS hA [0, 1] [] rfl rfl rfl (by decide) (fun w1 H locs hp hP hD hS => ?_)
          obtain ⟨md_28, rfl, hm_28, hn_28, hn_28b⟩ := hp
          have hP : va_P (gD g) classes [(h0, .inr (4, [.ref a1, .int (nI (z_M_addOwn (z_M_add (z_M_add xs 456901681454) 465491093294) (t - 1)).length), .ref a2, .int n2, .ref a3, .ref a4, .int n3])), (a1, .inl (gI g, 200, .inl md_28))] H := hP
          have hD : va_D A [(h0, .inr (4, [.ref a1, .int (nI (z_M_addOwn (z_M_add (z_M_add xs 456901681454) 465491093294) (t - 1)).length), .ref a2, .int n2, .ref a3, .ref a4, .int n3])), (a1, .inl (gI g, 200, .inl md_28))] := hD
          refine lv_aload_n hx hb d_M_addName_63 rfl (lv_at hl 0 rfl) ?_
          refine lv_bipush (v := 36) hx hb d_M_addName_64 (by decide) ?_
          refine go_v (wr := []) (run_V hF (c_M_one g l _ h0 a1 a2 a3 a4 n2 n3 (z_M_addOwn (z_M_add (z_M_add xs 456901681454) 465491093294) (t - 1)) md_28 hm_28 36 (by omega)) k_M_one j_M_79 se_M_M_one (va_recv hK hP (ci := 4) (q0 := 0) rfl rfl) (cw_down G hP hD hS hA [0, 1] rfl rfl) ⟨Nat.le_of_ble_eq_true rfl, Nat.le_of_ble_eq_true rfl⟩ rfl hl.1 (Nat.le_of_ble_eq_true rfl) d_M_addName_66 ⟨(by first | exact Nat.le_of_ble_eq_true rfl | (dsimp only; omega) | omega), (by first | exact Nat.le_of_ble_eq_true rfl | (dsimp only; omega) | omega)⟩) hP hD hS hA [0, 1] [] rfl rfl rfl (by decide) (fun w1 H locs hp hP hD hS => ?_)
          obtain ⟨md_30, rfl, hm_30, hn_30, hn_30b⟩ := hp
          have hP : va_P (gD g) classes [(h0, .inr (4, [.ref a1, .int (nI (z_M_one (z_M_addOwn (z_M_add (z_M_add xs 456901681454) 465491093294) (t - 1)) 36).length), .ref a2, .int n2, .ref a3, .ref a4, .int n3])), (a1, .inl (gI g, 200, .inl md_30))] H := hP
          have hD : va_D A [(h0, .inr (4, [.ref a1, .int (nI (z_M_one (z_M_addOwn (z_M_add (z_M_add xs 456901681454) 465491093294) (t - 1)) 36).length), .ref a2, .int n2, .ref a3, .ref a4, .int n3])), (a1, .inl (gI g, 200, .inl md_30))] := hD
          refine lv_iload_n hx hb d_M_addName_69 rfl (lv_at hl 1 rfl) ?_
          refine lv_bipush (v := 23) hx hb d_M_addName_70 (by decide) ?_
          refine lv_icmp_ne (tgt := 81) hx hb d_M_addName_72 (by decide) (fun c_31 => ?_) (fun c_31 => ?_)
          · skip
            refine lv_aload_n hx hb d_M_addName_81 rfl (lv_at hl 0 rfl) ?_
            refine lv_iload_n hx hb d_M_addName_82 rfl (lv_at hl 1 rfl) ?_
            refine go_v (wr := []) (run_V hF (c_M_addOwn g l _ h0 a1 a2 a3 a4 n2 n3 (z_M_one (z_M_addOwn (z_M_add (z_M_add xs 456901681454) 465491093294) (t - 1)) 36) md_30 hm_30 t (by omega)) k_M_addOwn j_M_99 se_M_M_addOwn (va_recv hK hP (ci := 4) (q0 := 0) rfl rfl) (cw_down G hP hD hS hA [0, 1] rfl rfl) ⟨Nat.le_of_ble_eq_true rfl, Nat.le_of_ble_eq_true rfl⟩ rfl hl.1 (Nat.le_of_ble_eq_true rfl) d_M_addName_83 ⟨(by first | exact Nat.le_of_ble_eq_true rfl | (dsimp only; omega) | omega), (by first | exact Nat.le_of_ble_eq_true rfl | (dsimp only; omega) | omega)⟩) hP hD hS hA [0, 1] [] rfl rfl rfl (by decide) (fun w1 H locs hp hP hD hS => ?_)
            obtain ⟨md_33, rfl, hm_33, hn_33, hn_33b⟩ := hp
            have hP : va_P (gD g) classes [(h0, .inr (4, [.ref a1, .int (nI (z_M_addOwn (z_M_one (z_M_addOwn (z_M_add (z_M_add xs 456901681454) 465491093294) (t - 1)) 36) t).length), .ref a2, .int n2, .ref a3, .ref a4, .int n3])), (a1, .inl (gI g, 200, .inl md_33))] H := hP
            have hD : va_D A [(h0, .inr (4, [.ref a1, .int (nI (z_M_addOwn (z_M_one (z_M_addOwn (z_M_add (z_M_add xs 456901681454) 465491093294) (t - 1)) 36) t).length), .ref a2, .int n2, .ref a3, .ref a4, .int n3])), (a1, .inl (gI g, 200, .inl md_33))] := hD
            have e : z_M_addName xs t = (z_M_addOwn (z_M_one (z_M_addOwn (z_M_add (z_M_add xs 456901681454) 465491093294) (t - 1)) 36) t) := by rw [z_M_addName, if_pos c_1, if_pos c_6, if_neg c_7, if_pos c_19, if_neg c_31]
            exact ret_v hx hb hr hlk (hP.sub (ws' := [(h0, .inr (4, [.ref a1, .int (nI (z_M_addOwn (z_M_one (z_M_addOwn (z_M_add (z_M_add xs 456901681454) 465491093294) (t - 1)) 36) t).length), .ref a2, .int n2, .ref a3, .ref a4, .int n3])), (a1, .inl (gI g, 200, .inl md_33))]) [0, 1] rfl) (hD.sub (ws' := [(h0, .inr (4, [.ref a1, .int (nI (z_M_addOwn (z_M_one (z_M_addOwn (z_M_add (z_M_add xs 456901681454) 465491093294) (t - 1)) 36) t).length), .ref a2, .int n2, .ref a3, .ref a4, .int n3])), (a1, .inl (gI g, 200, .inl md_33))]) [0, 1] rfl rfl) hS ⟨md_33, by rw [e], by rw [e]; exact hm_33, by rw [e]; omega, by rw [e]; omega⟩ (by first | exact Nat.le_of_ble_eq_true rfl | (dsimp only; omega) | omega) (by first | exact Nat.le_of_ble_eq_true rfl | (dsimp only; omega) | omega) d_M_addName_86
          · skip
            refine lv_aload_n hx hb d_M_addName_75 rfl (lv_at hl 0 rfl) ?_
            refine lv_bipush (v := 49) hx hb d_M_addName_76 (by decide) ?_
            refine go_v (wr := []) (run_V hF (c_M_one g l _ h0 a1 a2 a3 a4 n2 n3 (z_M_one (z_M_addOwn (z_M_add (z_M_add xs 456901681454) 465491093294) (t - 1)) 36) md_30 hm_30 49 (by omega)) k_M_one j_M_79 se_M_M_one (va_recv hK hP (ci := 4) (q0 := 0) rfl rfl) (cw_down G hP hD hS hA [0, 1] rfl rfl) ⟨Nat.le_of_ble_eq_true rfl, Nat.le_of_ble_eq_true rfl⟩ rfl hl.1 (Nat.le_of_ble_eq_true rfl) d_M_addName_78 ⟨(by first | exact Nat.le_of_ble_eq_true rfl | (dsimp only; omega) | omega), (by first | exact Nat.le_of_ble_eq_true rfl | (dsimp only; omega) | omega)⟩) hP hD hS hA [0, 1] [] rfl rfl rfl (by decide) (fun w1 H locs hp hP hD hS => ?_)
            obtain ⟨md_35, rfl, hm_35, hn_35, hn_35b⟩ := hp
            have hP : va_P (gD g) classes [(h0, .inr (4, [.ref a1, .int (nI (z_M_one (z_M_one (z_M_addOwn (z_M_add (z_M_add xs 456901681454) 465491093294) (t - 1)) 36) 49).length), .ref a2, .int n2, .ref a3, .ref a4, .int n3])), (a1, .inl (gI g, 200, .inl md_35))] H := hP
            have hD : va_D A [(h0, .inr (4, [.ref a1, .int (nI (z_M_one (z_M_one (z_M_addOwn (z_M_add (z_M_add xs 456901681454) 465491093294) (t - 1)) 36) 49).length), .ref a2, .int n2, .ref a3, .ref a4, .int n3])), (a1, .inl (gI g, 200, .inl md_35))] := hD
            refine lv_aload_n hx hb d_M_addName_81 rfl (lv_at hl 0 rfl) ?_
            refine lv_iload_n hx hb d_M_addName_82 rfl (lv_at hl 1 rfl) ?_
            refine go_v (wr := []) (run_V hF (c_M_addOwn g l _ h0 a1 a2 a3 a4 n2 n3 (z_M_one (z_M_one (z_M_addOwn (z_M_add (z_M_add xs 456901681454) 465491093294) (t - 1)) 36) 49) md_35 hm_35 t (by omega)) k_M_addOwn j_M_99 se_M_M_addOwn (va_recv hK hP (ci := 4) (q0 := 0) rfl rfl) (cw_down G hP hD hS hA [0, 1] rfl rfl) ⟨Nat.le_of_ble_eq_true rfl, Nat.le_of_ble_eq_true rfl⟩ rfl hl.1 (Nat.le_of_ble_eq_true rfl) d_M_addName_83 ⟨(by first | exact Nat.le_of_ble_eq_true rfl | (dsimp only; omega) | omega), (by first | exact Nat.le_of_ble_eq_true rfl | (dsimp only; omega) | omega)⟩) hP hD hS hA [0, 1] [] rfl rfl rfl (by decide) (fun w1 H locs hp hP hD hS => ?_)
            obtain ⟨md_37, rfl, hm_37, hn_37, hn_37b⟩ := hp
            have hP : va_P (gD g) classes [(h0, .inr (4, [.ref a1, .int (nI (z_M_addOwn (z_M_one (z_M_one (z_M_addOwn (z_M_add (z_M_add xs 456901681454) 465491093294) (t - 1)) 36) 49) t).length), .ref a2, .int n2, .ref a3, .ref a4, .int n3])), (a1, .inl (gI g, 200, .inl md_37))] H := hP
            have hD : va_D A [(h0, .inr (4, [.ref a1, .int (nI (z_M_addOwn (z_M_one (z_M_one (z_M_addOwn (z_M_add (z_M_add xs 456901681454) 465491093294) (t - 1)) 36) 49) t).length), .ref a2, .int n2, .ref a3, .ref a4, .int n3])), (a1, .inl (gI g, 200, .inl md_37))] := hD
            have e : z_M_addName xs t = (z_M_addOwn (z_M_one (z_M_one (z_M_addOwn (z_M_add (z_M_add xs 456901681454) 465491093294) (t - 1)) 36) 49) t) := by rw [z_M_addName, if_pos c_1, if_pos c_6, if_neg c_7, if_pos c_19, if_pos c_31]
            exact ret_v hx hb hr hlk (hP.sub (ws' := [(h0, .inr (4, [.ref a1, .int (nI (z_M_addOwn (z_M_one (z_M_one (z_M_addOwn (z_M_add (z_M_add xs 456901681454) 465491093294) (t - 1)) 36) 49) t).length), .ref a2, .int n2, .ref a3, .ref a4, .int n3])), (a1, .inl (gI g, 200, .inl md_37))]) [0, 1] rfl) (hD.sub (ws' := [(h0, .inr (4, [.ref a1, .int (nI (z_M_addOwn (z_M_one (z_M_one (z_M_addOwn (z_M_add (z_M_add xs 456901681454) 465491093294) (t - 1)) 36) 49) t).length), .ref a2, .int n2, .ref a3, .ref a4, .int n3])), (a1, .inl (gI g, 200, .inl md_37))]) [0, 1] rfl rfl) hS ⟨md_37, by rw [e], by rw [e]; exact hm_37, by rw [e]; omega, by rw [e]; omega⟩ (by first | exact Nat.le_of_ble_eq_true rfl | (dsimp only; omega) | omega) (by first | exact Nat.le_of_ble_eq_true rfl | (dsimp only; omega) | omega) d_M_addName_86
    · skip
      refine lv_aload_n hx hb d_M_addName_32 rfl (lv_at hl 0 rfl) ?_
      refine lv_bipush (v := 11) hx hb d_M_addName_33 (by decide) ?_
      refine go_v (wr := []) (run_V hF (c_M_addOwn g l _ h0 a1 a2 a3 a4 n2 n3 (z_M_add (z_M_add xs 456901681454) 465491093294) md_5 hm_5 11 (by omega)) k_M_addOwn j_M_99 se_M_M_addOwn (va_recv hK hP (ci := 4) (q0 := 0) rfl rfl) (cw_down G hP hD hS hA [0, 1] rfl rfl) ⟨Nat.le_of_ble_eq_true rfl, Nat.le_of_ble_eq_true rfl⟩ rfl hl.1 (Nat.le_of_ble_eq_true rfl) d_M_addName_35 ⟨(by first | exact Nat.le_of_ble_eq_true rfl | (dsimp only; omega) | omega), (by first | exact Nat.le_of_ble_eq_true rfl | (dsimp only; omega) | omega)⟩) hP hD hS hA [0, 1] [] rfl rfl rfl (by decide) (fun w1 H locs hp hP hD hS => ?_)
      obtain ⟨md_39, rfl, hm_39, hn_39, hn_39b⟩ := hp
      have hP : va_P (gD g) classes [(h0, .inr (4, [.ref a1, .int (nI (z_M_addOwn (z_M_add (z_M_add xs 456901681454) 465491093294) 11).length), .ref a2, .int n2, .ref a3, .ref a4, .int n3])), (a1, .inl (gI g, 200, .inl md_39))] H := hP
      have hD : va_D A [(h0, .inr (4, [.ref a1, .int (nI (z_M_addOwn (z_M_add (z_M_add xs 456901681454) 465491093294) 11).length), .ref a2, .int n2, .ref a3, .ref a4, .int n3])), (a1, .inl (gI g, 200, .inl md_39))] := hD
      refine lv_aload_n hx hb d_M_addName_38 rfl (lv_at hl 0 rfl) ?_
      refine lv_bipush (v := 36) hx hb d_M_addName_39 (by decide) ?_
      refine go_v (wr := []) (run_V hF (c_M_one g l _ h0 a1 a2 a3 a4 n2 n3 (z_M_addOwn (z_M_add (z_M_add xs 456901681454) 465491093294) 11) md_39 hm_39 36 (by omega)) k_M_one j_M_79 se_M_M_one (va_recv hK hP (ci := 4) (q0 := 0) rfl rfl) (cw_down G hP hD hS hA [0, 1] rfl rfl) ⟨Nat.le_of_ble_eq_true rfl, Nat.le_of_ble_eq_true rfl⟩ rfl hl.1 (Nat.le_of_ble_eq_true rfl) d_M_addName_41 ⟨(by first | exact Nat.le_of_ble_eq_true rfl | (dsimp only; omega) | omega), (by first | exact Nat.le_of_ble_eq_true rfl | (dsimp only; omega) | omega)⟩) hP hD hS hA [0, 1] [] rfl rfl rfl (by decide) (fun w1 H locs hp hP hD hS => ?_)
      obtain ⟨md_41, rfl, hm_41, hn_41, hn_41b⟩ := hp
      have hP : va_P (gD g) classes [(h0, .inr (4, [.ref a1, .int (nI (z_M_one (z_M_addOwn (z_M_add (z_M_add xs 456901681454) 465491093294) 11) 36).length), .ref a2, .int n2, .ref a3, .ref a4, .int n3])), (a1, .inl (gI g, 200, .inl md_41))] H := hP
      have hD : va_D A [(h0, .inr (4, [.ref a1, .int (nI (z_M_one (z_M_addOwn (z_M_add (z_M_add xs 456901681454) 465491093294) 11) 36).length), .ref a2, .int n2, .ref a3, .ref a4, .int n3])), (a1, .inl (gI g, 200, .inl md_41))] := hD
      refine lv_iload_n hx hb d_M_addName_44 rfl (lv_at hl 1 rfl) ?_
      refine lv_bipush (v := 17) hx hb d_M_addName_45 (by decide) ?_
      refine lv_icmp_eq (tgt := 56) hx hb d_M_addName_47 (by decide) (fun c_42 => ?_) (fun c_42 => ?_)
      · skip
        refine lv_aload_n hx hb d_M_addName_56 rfl (lv_at hl 0 rfl) ?_
        refine lv_iload_n hx hb d_M_addName_57 rfl (lv_at hl 1 rfl) ?_
        refine lv_iconst (v := 1) hx hb d_M_addName_58 (by decide) ?_
        refine lv_isub hx hb d_M_addName_59 ?_
        refine go_v (wr := []) (run_V hF (c_M_addOwn g l _ h0 a1 a2 a3 a4 n2 n3 (z_M_one (z_M_addOwn (z_M_add (z_M_add xs 456901681454) 465491093294) 11) 36) md_41 hm_41 (t - 1) (by omega)) k_M_addOwn j_M_99 se_M_M_addOwn (va_recv hK hP (ci := 4) (q0 := 0) rfl rfl) (cw_down G hP hD hS hA [0, 1] rfl rfl) ⟨Nat.le_of_ble_eq_true rfl, Nat.le_of_ble_eq_true rfl⟩ rfl hl.1 (Nat.le_of_ble_eq_true rfl) d_M_addName_60 ⟨(by first | exact Nat.le_of_ble_eq_true rfl | (dsimp only; omega) | omega), (by first | exact Nat.le_of_ble_eq_true rfl | (dsimp only; omega) | omega)⟩) hP hD hS hA [0, 1] [] rfl rfl rfl (by decide) (fun w1 H locs hp hP hD hS => ?_)
        obtain ⟨md_44, rfl, hm_44, hn_44, hn_44b⟩ := hp
        have hP : va_P (gD g) classes [(h0, .inr (4, [.ref a1, .int (nI (z_M_addOwn (z_M_one (z_M_addOwn (z_M_add (z_M_add xs 456901681454) 465491093294) 11) 36) (t - 1)).length), .ref a2, .int n2, .ref a3, .ref a4, .int n3])), (a1, .inl (gI g, 200, .inl md_44))] H := hP
        have hD : va_D A [(h0, .inr (4, [.ref a1, .int (nI (z_M_addOwn (z_M_one (z_M_addOwn (z_M_add (z_M_add xs 456901681454) 465491093294) 11) 36) (t - 1)).length), .ref a2, .int n2, .ref a3, .ref a4, .int n3])), (a1, .inl (gI g, 200, .inl md_44))] := hD
        refine lv_aload_n hx hb d_M_addName_63 rfl (lv_at hl 0 rfl) ?_
        refine lv_bipush (v := 36) hx hb d_M_addName_64 (by decide) ?_
        refine go_v (wr := []) (run_V hF (c_M_one g l _ h0 a1 a2 a3 a4 n2 n3 (z_M_addOwn (z_M_one (z_M_addOwn (z_M_add (z_M_add xs 456901681454) 465491093294) 11) 36) (t - 1)) md_44 hm_44 36 (by omega)) k_M_one j_M_79 se_M_M_one (va_recv hK hP (ci := 4) (q0 := 0) rfl rfl) (cw_down G hP hD hS hA [0, 1] rfl rfl) ⟨Nat.le_of_ble_eq_true rfl, Nat.le_of_ble_eq_true rfl⟩ rfl hl.1 (Nat.le_of_ble_eq_true rfl) d_M_addName_66 ⟨(by first | exact Nat.le_of_ble_eq_true rfl | (dsimp only; omega) | omega), (by first | exact Nat.le_of_ble_eq_true rfl | (dsimp only; omega) | omega)⟩) hP hD hS hA [0, 1] [] rfl rfl rfl (by decide) (fun w1 H locs hp hP hD hS => ?_)
        obtain ⟨md_46, rfl, hm_46, hn_46, hn_46b⟩ := hp
        have hP : va_P (gD g) classes [(h0, .inr (4, [.ref a1, .int (nI (z_M_one (z_M_addOwn (z_M_one (z_M_addOwn (z_M_add (z_M_add xs 456901681454) 465491093294) 11) 36) (t - 1)) 36).length), .ref a2, .int n2, .ref a3, .ref a4, .int n3])), (a1, .inl (gI g, 200, .inl md_46))] H := hP
        have hD : va_D A [(h0, .inr (4, [.ref a1, .int (nI (z_M_one (z_M_addOwn (z_M_one (z_M_addOwn (z_M_add (z_M_add xs 456901681454) 465491093294) 11) 36) (t - 1)) 36).length), .ref a2, .int n2, .ref a3, .ref a4, .int n3])), (a1, .inl (gI g, 200, .inl md_46))] := hD
        refine lv_iload_n hx hb d_M_addName_69 rfl (lv_at hl 1 rfl) ?_
        refine lv_bipush (v := 23) hx hb d_M_addName_70 (by decide) ?_
        refine lv_icmp_ne (tgt := 81) hx hb d_M_addName_72 (by decide) (fun c_47 => ?_) (fun c_47 => ?_)
        · skip
          refine lv_aload_n hx hb d_M_addName_81 rfl (lv_at hl 0 rfl) ?_
          refine lv_iload_n hx hb d_M_addName_82 rfl (lv_at hl 1 rfl) ?_
          refine go_v (wr := []) (run_V hF (c_M_addOwn g l _ h0 a1 a2 a3 a4 n2 n3 (z_M_one (z_M_addOwn (z_M_one (z_M_addOwn (z_M_add (z_M_add xs 456901681454) 465491093294) 11) 36) (t - 1)) 36) md_46 hm_46 t (by omega)) k_M_addOwn j_M_99 se_M_M_addOwn (va_recv hK hP (ci := 4) (q0 := 0) rfl rfl) (cw_down G hP hD hS hA [0, 1] rfl rfl) ⟨Nat.le_of_ble_eq_true rfl, Nat.le_of_ble_eq_true rfl⟩ rfl hl.1 (Nat.le_of_ble_eq_true rfl) d_M_addName_83 ⟨(by first | exact Nat.le_of_ble_eq_true rfl | (dsimp only; omega) | omega), (by first | exact Nat.le_of_ble_eq_true rfl | (dsimp only; omega) | omega)⟩) hP hD hS hA [0, 1] [] rfl rfl rfl (by decide) (fun w1 H locs hp hP hD hS => ?_)
          obtain ⟨md_49, rfl, hm_49, hn_49, hn_49b⟩ := hp
          have hP : va_P (gD g) classes [(h0, .inr (4, [.ref a1, .int (nI (z_M_addOwn (z_M_one (z_M_addOwn (z_M_one (z_M_addOwn (z_M_add (z_M_add xs 456901681454) 465491093294) 11) 36) (t - 1)) 36) t).length), .ref a2, .int n2, .ref a3, .ref a4, .int n3])), (a1, .inl (gI g, 200, .inl md_49))] H := hP
          have hD : va_D A [(h0, .inr (4, [.ref a1, .int (nI (z_M_addOwn (z_M_one (z_M_addOwn (z_M_one (z_M_addOwn (z_M_add (z_M_add xs 456901681454) 465491093294) 11) 36) (t - 1)) 36) t).length), .ref a2, .int n2, .ref a3, .ref a4, .int n3])), (a1, .inl (gI g, 200, .inl md_49))] := hD
          have e : z_M_addName xs t = (z_M_addOwn (z_M_one (z_M_addOwn (z_M_one (z_M_addOwn (z_M_add (z_M_add xs 456901681454) 465491093294) 11) 36) (t - 1)) 36) t) := by rw [z_M_addName, if_pos c_1, if_neg c_6, if_pos c_42, if_neg c_47]
          exact ret_v hx hb hr hlk (hP.sub (ws' := [(h0, .inr (4, [.ref a1, .int (nI (z_M_addOwn (z_M_one (z_M_addOwn (z_M_one (z_M_addOwn (z_M_add (z_M_add xs 456901681454) 465491093294) 11) 36) (t - 1)) 36) t).length), .ref a2, .int n2, .ref a3, .ref a4, .int n3])), (a1, .inl (gI g, 200, .inl md_49))]) [0, 1] rfl) (hD.sub (ws' := [(h0, .inr (4, [.ref a1, .int (nI (z_M_addOwn (z_M_one (z_M_addOwn (z_M_one (z_M_addOwn (z_M_add (z_M_add xs 456901681454) 465491093294) 11) 36) (t - 1)) 36) t).length), .ref a2, .int n2, .ref a3, .ref a4, .int n3])), (a1, .inl (gI g, 200, .inl md_49))]) [0, 1] rfl rfl) hS ⟨md_49, by rw [e], by rw [e]; exact hm_49, by rw [e]; omega, by rw [e]; omega⟩ (by first | exact Nat.le_of_ble_eq_true rfl | (dsimp only; omega) | omega) (by first | exact Nat.le_of_ble_eq_true rfl | (dsimp only; omega) | omega) d_M_addName_86
        · skip
          refine lv_aload_n hx hb d_M_addName_75 rfl (lv_at hl 0 rfl) ?_
          refine lv_bipush (v := 49) hx hb d_M_addName_76 (by decide) ?_
          refine go_v (wr := []) (run_V hF (c_M_one g l _ h0 a1 a2 a3 a4 n2 n3 (z_M_one (z_M_addOwn (z_M_one (z_M_addOwn (z_M_add (z_M_add xs 456901681454) 465491093294) 11) 36) (t - 1)) 36) md_46 hm_46 49 (by omega)) k_M_one j_M_79 se_M_M_one (va_recv hK hP (ci := 4) (q0 := 0) rfl rfl) (cw_down G hP hD hS hA [0, 1] rfl rfl) ⟨Nat.le_of_ble_eq_true rfl, Nat.le_of_ble_eq_true rfl⟩ rfl hl.1 (Nat.le_of_ble_eq_true rfl) d_M_addName_78 ⟨(by first | exact Nat.le_of_ble_eq_true rfl | (dsimp only; omega) | omega), (by first | exact Nat.le_of_ble_eq_true rfl | (dsimp only; omega) | omega)⟩) hP hD hS hA [0, 1] [] rfl rfl rfl (by decide) (fun w1 H locs hp hP hD hS => ?_)
          obtain ⟨md_51, rfl, hm_51, hn_51, hn_51b⟩ := hp
          have hP : va_P (gD g) classes [(h0, .inr (4, [.ref a1, .int (nI (z_M_one (z_M_one (z_M_addOwn (z_M_one (z_M_addOwn (z_M_add (z_M_add xs 456901681454) 465491093294) 11) 36) (t - 1)) 36) 49).length), .ref a2, .int n2, .ref a3, .ref a4, .int n3])), (a1, .inl (gI g, 200, .inl md_51))] H := hP
          have hD : va_D A [(h0, .inr (4, [.ref a1, .int (nI (z_M_one (z_M_one (z_M_addOwn (z_M_one (z_M_addOwn (z_M_add (z_M_add xs 456901681454) 465491093294) 11) 36) (t - 1)) 36) 49).length), .ref a2, .int n2, .ref a3, .ref a4, .int n3])), (a1, .inl (gI g, 200, .inl md_51))] := hD
          refine lv_aload_n hx hb d_M_addName_81 rfl (lv_at hl 0 rfl) ?_
          refine lv_iload_n hx hb d_M_addName_82 rfl (lv_at hl 1 rfl) ?_
          refine go_v (wr := []) (run_V hF (c_M_addOwn g l _ h0 a1 a2 a3 a4 n2 n3 (z_M_one (z_M_one (z_M_addOwn (z_M_one (z_M_addOwn (z_M_add (z_M_add xs 456901681454) 465491093294) 11) 36) (t - 1)) 36) 49) md_51 hm_51 t (by omega)) k_M_addOwn j_M_99 se_M_M_addOwn (va_recv hK hP (ci := 4) (q0 := 0) rfl rfl) (cw_down G hP hD hS hA [0, 1] rfl rfl) ⟨Nat.le_of_ble_eq_true rfl, Nat.le_of_ble_eq_true rfl⟩ rfl hl.1 (Nat.le_of_ble_eq_true rfl) d_M_addName_83 ⟨(by first | exact Nat.le_of_ble_eq_true rfl | (dsimp only; omega) | omega), (by first | exact Nat.le_of_ble_eq_true rfl | (dsimp only; omega) | omega)⟩) hP hD hS hA [0, 1] [] rfl rfl rfl (by decide) (fun w1 H locs hp hP hD hS => ?_)
          obtain ⟨md_53, rfl, hm_53, hn_53, hn_53b⟩ := hp
          have hP : va_P (gD g) classes [(h0, .inr (4, [.ref a1, .int (nI (z_M_addOwn (z_M_one (z_M_one (z_M_addOwn (z_M_one (z_M_addOwn (z_M_add (z_M_add xs 456901681454) 465491093294) 11) 36) (t - 1)) 36) 49) t).length), .ref a2, .int n2, .ref a3, .ref a4, .int n3])), (a1, .inl (gI g, 200, .inl md_53))] H := hP
          have hD : va_D A [(h0, .inr (4, [.ref a1, .int (nI (z_M_addOwn (z_M_one (z_M_one (z_M_addOwn (z_M_one (z_M_addOwn (z_M_add (z_M_add xs 456901681454) 465491093294) 11) 36) (t - 1)) 36) 49) t).length), .ref a2, .int n2, .ref a3, .ref a4, .int n3])), (a1, .inl (gI g, 200, .inl md_53))] := hD
          have e : z_M_addName xs t = (z_M_addOwn (z_M_one (z_M_one (z_M_addOwn (z_M_one (z_M_addOwn (z_M_add (z_M_add xs 456901681454) 465491093294) 11) 36) (t - 1)) 36) 49) t) := by rw [z_M_addName, if_pos c_1, if_neg c_6, if_pos c_42, if_pos c_47]
          exact ret_v hx hb hr hlk (hP.sub (ws' := [(h0, .inr (4, [.ref a1, .int (nI (z_M_addOwn (z_M_one (z_M_one (z_M_addOwn (z_M_one (z_M_addOwn (z_M_add (z_M_add xs 456901681454) 465491093294) 11) 36) (t - 1)) 36) 49) t).length), .ref a2, .int n2, .ref a3, .ref a4, .int n3])), (a1, .inl (gI g, 200, .inl md_53))]) [0, 1] rfl) (hD.sub (ws' := [(h0, .inr (4, [.ref a1, .int (nI (z_M_addOwn (z_M_one (z_M_one (z_M_addOwn (z_M_one (z_M_addOwn (z_M_add (z_M_add xs 456901681454) 465491093294) 11) 36) (t - 1)) 36) 49) t).length), .ref a2, .int n2, .ref a3, .ref a4, .int n3])), (a1, .inl (gI g, 200, .inl md_53))]) [0, 1] rfl rfl) hS ⟨md_53, by rw [e], by rw [e]; exact hm_53, by rw [e]; omega, by rw [e]; omega⟩ (by first | exact Nat.le_of_ble_eq_true rfl | (dsimp only; omega) | omega) (by first | exact Nat.le_of_ble_eq_true rfl | (dsimp only; omega) | omega) d_M_addName_86
      · skip
        refine lv_iload_n hx hb d_M_addName_50 rfl (lv_at hl 1 rfl) ?_
        refine lv_bipush (v := 19) hx hb d_M_addName_51 (by decide) ?_
        refine lv_icmp_ne (tgt := 69) hx hb d_M_addName_53 (by decide) (fun c_54 => ?_) (fun c_54 => ?_)
        · skip
          refine lv_iload_n hx hb d_M_addName_69 rfl (lv_at hl 1 rfl) ?_
          refine lv_bipush (v := 23) hx hb d_M_addName_70 (by decide) ?_
          refine lv_icmp_ne (tgt := 81) hx hb d_M_addName_72 (by decide) (fun c_55 => ?_) (fun c_55 => ?_)
          · skip
            refine lv_aload_n hx hb d_M_addName_81 rfl (lv_at hl 0 rfl) ?_
            refine lv_iload_n hx hb d_M_addName_82 rfl (lv_at hl 1 rfl) ?_
            refine go_v (wr := []) (run_V hF (c_M_addOwn g l _ h0 a1 a2 a3 a4 n2 n3 (z_M_one (z_M_addOwn (z_M_add (z_M_add xs 456901681454) 465491093294) 11) 36) md_41 hm_41 t (by omega)) k_M_addOwn j_M_99 se_M_M_addOwn (va_recv hK hP (ci := 4) (q0 := 0) rfl rfl) (cw_down G hP hD hS hA [0, 1] rfl rfl) ⟨Nat.le_of_ble_eq_true rfl, Nat.le_of_ble_eq_true rfl⟩ rfl hl.1 (Nat.le_of_ble_eq_true rfl) d_M_addName_83 ⟨(by first | exact Nat.le_of_ble_eq_true rfl | (dsimp only; omega) | omega), (by first | exact Nat.le_of_ble_eq_true rfl | (dsimp only; omega) | omega)⟩) hP hD hS hA [0, 1] [] rfl rfl rfl (by decide) (fun w1 H locs hp hP hD hS => ?_)
            obtain ⟨md_57, rfl, hm_57, hn_57, hn_57b⟩ := hp
            have hP : va_P (gD g) classes [(h0, .inr (4, [.ref a1, .int (nI (z_M_addOwn (z_M_one (z_M_addOwn (z_M_add (z_M_add xs 456901681454) 465491093294) 11) 36) t).length), .ref a2, .int n2, .ref a3, .ref a4, .int n3])), (a1, .inl (gI g, 200, .inl md_57))] H := hP
            have hD : va_D A [(h0, .inr (4, [.ref a1, .int (nI (z_M_addOwn (z_M_one (z_M_addOwn (z_M_add (z_M_add xs 456901681454) 465491093294) 11) 36) t).length), .ref a2, .int n2, .ref a3, .ref a4, .int n3])), (a1, .inl (gI g, 200, .inl md_57))] := hD
            have e : z_M_addName xs t = (z_M_addOwn (z_M_one (z_M_addOwn (z_M_add (z_M_add xs 456901681454) 465491093294) 11) 36) t) := by rw [z_M_addName, if_pos c_1, if_neg c_6, if_neg c_42, if_neg c_54, if_neg c_55]
            exact ret_v hx hb hr hlk (hP.sub (ws' := [(h0, .inr (4, [.ref a1, .int (nI (z_M_addOwn (z_M_one (z_M_addOwn (z_M_add (z_M_add xs 456901681454) 465491093294) 11) 36) t).length), .ref a2, .int n2, .ref a3, .ref a4, .int n3])), (a1, .inl (gI g, 200, .inl md_57))]) [0, 1] rfl) (hD.sub (ws' := [(h0, .inr (4, [.ref a1, .int (nI (z_M_addOwn (z_M_one (z_M_addOwn (z_M_add (z_M_add xs 456901681454) 465491093294) 11) 36) t).length), .ref a2, .int n2, .ref a3, .ref a4, .int n3])), (a1, .inl (gI g, 200, .inl md_57))]) [0, 1] rfl rfl) hS ⟨md_57, by rw [e], by rw [e]; exact hm_57, by rw [e]; omega, by rw [e]; omega⟩ (by first | exact Nat.le_of_ble_eq_true rfl | (dsimp only; omega) | omega) (by first | exact Nat.le_of_ble_eq_true rfl | (dsimp only; omega) | omega) d_M_addName_86
          · skip
            refine lv_aload_n hx hb d_M_addName_75 rfl (lv_at hl 0 rfl) ?_
            refine lv_bipush (v := 49) hx hb d_M_addName_76 (by decide) ?_
            refine go_v (wr := []) (run_V hF (c_M_one g l _ h0 a1 a2 a3 a4 n2 n3 (z_M_one (z_M_addOwn (z_M_add (z_M_add xs 456901681454) 465491093294) 11) 36) md_41 hm_41 49 (by omega)) k_M_one j_M_79 se_M_M_one (va_recv hK hP (ci := 4) (q0 := 0) rfl rfl) (cw_down G hP hD hS hA [0, 1] rfl rfl) ⟨Nat.le_of_ble_eq_true rfl, Nat.le_of_ble_eq_true rfl⟩ rfl hl.1 (Nat.le_of_ble_eq_true rfl) d_M_addName_78 ⟨(by first | exact Nat.le_of_ble_eq_true rfl | (dsimp only; omega) | omega), (by first | exact Nat.le_of_ble_eq_true rfl | (dsimp only; omega) | omega)⟩) hP hD hS hA [0, 1] [] rfl rfl rfl (by decide) (fun w1 H locs hp hP hD hS => ?_)
            obtain ⟨md_59, rfl, hm_59, hn_59, hn_59b⟩ := hp
            have hP : va_P (gD g) classes [(h0, .inr (4, [.ref a1, .int (nI (z_M_one (z_M_one (z_M_addOwn (z_M_add (z_M_add xs 456901681454) 465491093294) 11) 36) 49).length), .ref a2, .int n2, .ref a3, .ref a4, .int n3])), (a1, .inl (gI g, 200, .inl md_59))] H := hP
            have hD : va_D A [(h0, .inr (4, [.ref a1, .int (nI (z_M_one (z_M_one (z_M_addOwn (z_M_add (z_M_add xs 456901681454) 465491093294) 11) 36) 49).length), .ref a2, .int n2, .ref a3, .ref a4, .int n3])), (a1, .inl (gI g, 200, .inl md_59))] := hD
            refine lv_aload_n hx hb d_M_addName_81 rfl (lv_at hl 0 rfl) ?_
            refine lv_iload_n hx hb d_M_addName_82 rfl (lv_at hl 1 rfl) ?_
            refine go_v (wr := []) (run_V hF (c_M_addOwn g l _ h0 a1 a2 a3 a4 n2 n3 (z_M_one (z_M_one (z_M_addOwn (z_M_add (z_M_add xs 456901681454) 465491093294) 11) 36) 49) md_59 hm_59 t (by omega)) k_M_addOwn j_M_99 se_M_M_addOwn (va_recv hK hP (ci := 4) (q0 := 0) rfl rfl) (cw_down G hP hD hS hA [0, 1] rfl rfl) ⟨Nat.le_of_ble_eq_true rfl, Nat.le_of_ble_eq_true rfl⟩ rfl hl.1 (Nat.le_of_ble_eq_true rfl) d_M_addName_83 ⟨(by first | exact Nat.le_of_ble_eq_true rfl | (dsimp only; omega) | omega), (by first | exact Nat.le_of_ble_eq_true rfl | (dsimp only; omega) | omega)⟩) hP hD hS hA [0, 1] [] rfl rfl rfl (by decide) (fun w1 H locs hp hP hD hS => ?_)
            obtain ⟨md_61, rfl, hm_61, hn_61, hn_61b⟩ := hp
            have hP : va_P (gD g) classes [(h0, .inr (4, [.ref a1, .int (nI (z_M_addOwn (z_M_one (z_M_one (z_M_addOwn (z_M_add (z_M_add xs 456901681454) 465491093294) 11) 36) 49) t).length), .ref a2, .int n2, .ref a3, .ref a4, .int n3])), (a1, .inl (gI g, 200, .inl md_61))] H := hP
            have hD : va_D A [(h0, .inr (4, [.ref a1, .int (nI (z_M_addOwn (z_M_one (z_M_one (z_M_addOwn (z_M_add (z_M_add xs 456901681454) 465491093294) 11) 36) 49) t).length), .ref a2, .int n2, .ref a3, .ref a4, .int n3])), (a1, .inl (gI g, 200, .inl md_61))] := hD
            have e : z_M_addName xs t = (z_M_addOwn (z_M_one (z_M_one (z_M_addOwn (z_M_add (z_M_add xs 456901681454) 465491093294) 11) 36) 49) t) := by rw [z_M_addName, if_pos c_1, if_neg c_6, if_neg c_42, if_neg c_54, if_pos c_55]
            exact ret_v hx hb hr hlk (hP.sub (ws' := [(h0, .inr (4, [.ref a1, .int (nI (z_M_addOwn (z_M_one (z_M_one (z_M_addOwn (z_M_add (z_M_add xs 456901681454) 465491093294) 11) 36) 49) t).length), .ref a2, .int n2, .ref a3, .ref a4, .int n3])), (a1, .inl (gI g, 200, .inl md_61))]) [0, 1] rfl) (hD.sub (ws' := [(h0, .inr (4, [.ref a1, .int (nI (z_M_addOwn (z_M_one (z_M_one (z_M_addOwn (z_M_add (z_M_add xs 456901681454) 465491093294) 11) 36) 49) t).length), .ref a2, .int n2, .ref a3, .ref a4, .int n3])), (a1, .inl (gI g, 200, .inl md_61))]) [0, 1] rfl rfl) hS ⟨md_61, by rw [e], by rw [e]; exact hm_61, by rw [e]; omega, by rw [e]; omega⟩ (by first | exact Nat.le_of_ble_eq_true rfl | (dsimp only; omega) | omega) (by first | exact Nat.le_of_ble_eq_true rfl | (dsimp only; omega) | omega) d_M_addName_86
        · skip
          refine lv_aload_n hx hb d_M_addName_56 rfl (lv_at hl 0 rfl) ?_
          refine lv_iload_n hx hb d_M_addName_57 rfl (lv_at hl 1 rfl) ?_
          refine lv_iconst (v := 1) hx hb d_M_addName_58 (by decide) ?_
          refine lv_isub hx hb d_M_addName_59 ?_
          refine go_v (wr := []) (run_V hF (c_M_addOwn g l _ h0 a1 a2 a3 a4 n2 n3 (z_M_one (z_M_addOwn (z_M_add (z_M_add xs 456901681454) 465491093294) 11) 36) md_41 hm_41 (t - 1) (by omega)) k_M_addOwn j_M_99 se_M_M_addOwn (va_recv hK hP (ci := 4) (q0 := 0) rfl rfl) (cw_down G hP hD hS hA [0, 1] rfl rfl) ⟨Nat.le_of_ble_eq_true rfl, Nat.le_of_ble_eq_true rfl⟩ rfl hl.1 (Nat.le_of_ble_eq_true rfl) d_M_addName_60 ⟨(by first | exact Nat.le_of_ble_eq_true rfl | (dsimp only; omega) | omega), (by first | exact Nat.le_of_ble_eq_true rfl | (dsimp only; omega) | omega)⟩) hP hD hS hA [0, 1] [] rfl rfl rfl (by decide) (fun w1 H locs hp hP hD hS => ?_)
          obtain ⟨md_63, rfl, hm_63, hn_63, hn_63b⟩ := hp
          have hP : va_P (gD g) classes [(h0, .inr (4, [.ref a1, .int (nI (z_M_addOwn (z_M_one (z_M_addOwn (z_M_add (z_M_add xs 456901681454) 465491093294) 11) 36) (t - 1)).length), .ref a2, .int n2, .ref a3, .ref a4, .int n3])), (a1, .inl (gI g, 200, .inl md_63))] H := hP
          have hD : va_D A [(h0, .inr (4, [.ref a1, .int (nI (z_M_addOwn (z_M_one (z_M_addOwn (z_M_add (z_M_add xs 456901681454) 465491093294) 11) 36) (t - 1)).length), .ref a2, .int n2, .ref a3, .ref a4, .int n3])), (a1, .inl (gI g, 200, .inl md_63))] := hD
          refine lv_aload_n hx hb d_M_addName_63 rfl (lv_at hl 0 rfl) ?_
          refine lv_bipush (v := 36) hx hb d_M_addName_64 (by decide) ?_
          refine go_v (wr := []) (run_V hF (c_M_one g l _ h0 a1 a2 a3 a4 n2 n3 (z_M_addOwn (z_M_one (z_M_addOwn (z_M_add (z_M_add xs 456901681454) 465491093294) 11) 36) (t - 1)) md_63 hm_63 36 (by omega)) k_M_one j_M_79 se_M_M_one (va_recv hK hP (ci := 4) (q0 := 0) rfl rfl) (cw_down G hP hD hS hA [0, 1] rfl rfl) ⟨Nat.le_of_ble_eq_true rfl, Nat.le_of_ble_eq_true rfl⟩ rfl hl.1 (Nat.le_of_ble_eq_true rfl) d_M_addName_66 ⟨(by first | exact Nat.le_of_ble_eq_true rfl | (dsimp only; omega) | omega), (by first | exact Nat.le_of_ble_eq_true rfl | (dsimp only; omega) | omega)⟩) hP hD hS hA [0, 1] [] rfl rfl rfl (by decide) (fun w1 H locs hp hP hD hS => ?_)
          obtain ⟨md_65, rfl, hm_65, hn_65, hn_65b⟩ := hp
          have hP : va_P (gD g) classes [(h0, .inr (4, [.ref a1, .int (nI (z_M_one (z_M_addOwn (z_M_one (z_M_addOwn (z_M_add (z_M_add xs 456901681454) 465491093294) 11) 36) (t - 1)) 36).length), .ref a2, .int n2, .ref a3, .ref a4, .int n3])), (a1, .inl (gI g, 200, .inl md_65))] H := hP
          have hD : va_D A [(h0, .inr (4, [.ref a1, .int (nI (z_M_one (z_M_addOwn (z_M_one (z_M_addOwn (z_M_add (z_M_add xs 456901681454) 465491093294) 11) 36) (t - 1)) 36).length), .ref a2, .int n2, .ref a3, .ref a4, .int n3])), (a1, .inl (gI g, 200, .inl md_65))] := hD
          refine lv_iload_n hx hb d_M_addName_69 rfl (lv_at hl 1 rfl) ?_
          refine lv_bipush (v := 23) hx hb d_M_addName_70 (by decide) ?_
          refine lv_icmp_ne (tgt := 81) hx hb d_M_addName_72 (by decide) (fun c_66 => ?_) (fun c_66 => ?_)
          · skip
            refine lv_aload_n hx hb d_M_addName_81 rfl (lv_at hl 0 rfl) ?_
            refine lv_iload_n hx hb d_M_addName_82 rfl (lv_at hl 1 rfl) ?_
            refine go_v (wr := []) (run_V hF (c_M_addOwn g l _ h0 a1 a2 a3 a4 n2 n3 (z_M_one (z_M_addOwn (z_M_one (z_M_addOwn (z_M_add (z_M_add xs 456901681454) 465491093294) 11) 36) (t - 1)) 36) md_65 hm_65 t (by omega)) k_M_addOwn j_M_99 se_M_M_addOwn (va_recv hK hP (ci := 4) (q0 := 0) rfl rfl) (cw_down G hP hD hS hA [0, 1] rfl rfl) ⟨Nat.le_of_ble_eq_true rfl, Nat.le_of_ble_eq_true rfl⟩ rfl hl.1 (Nat.le_of_ble_eq_true rfl) d_M_addName_83 ⟨(by first | exact Nat.le_of_ble_eq_true rfl | (dsimp only; omega) | omega), (by first | exact Nat.le_of_ble_eq_true rfl | (dsimp only; omega) | omega)⟩) hP hD hS hA [0, 1] [] rfl rfl rfl (by decide) (fun w1 H locs hp hP hD hS => ?_)
            obtain ⟨md_68, rfl, hm_68, hn_68, hn_68b⟩ := hp
            have hP : va_P (gD g) classes [(h0, .inr (4, [.ref a1, .int (nI (z_M_addOwn (z_M_one (z_M_addOwn (z_M_one (z_M_addOwn (z_M_add (z_M_add xs 456901681454) 465491093294) 11) 36) (t - 1)) 36) t).length), .ref a2, .int n2, .ref a3, .ref a4, .int n3])), (a1, .inl (gI g, 200, .inl md_68))] H := hP
            have hD : va_D A [(h0, .inr (4, [.ref a1, .int (nI (z_M_addOwn (z_M_one (z_M_addOwn (z_M_one (z_M_addOwn (z_M_add (z_M_add xs 456901681454) 465491093294) 11) 36) (t - 1)) 36) t).length), .ref a2, .int n2, .ref a3, .ref a4, .int n3])), (a1, .inl (gI g, 200, .inl md_68))] := hD
            have e : z_M_addName xs t = (z_M_addOwn (z_M_one (z_M_addOwn (z_M_one (z_M_addOwn (z_M_add (z_M_add xs 456901681454) 465491093294) 11) 36) (t - 1)) 36) t) := by rw [z_M_addName, if_pos c_1, if_neg c_6, if_neg c_42, if_pos c_54, if_neg c_66]
            exact ret_v hx hb hr hlk (hP.sub (ws' := [(h0, .inr (4, [.ref a1, .int (nI (z_M_addOwn (z_M_one (z_M_addOwn (z_M_one (z_M_addOwn (z_M_add (z_M_add xs 456901681454) 465491093294) 11) 36) (t - 1)) 36) t).length), .ref a2, .int n2, .ref a3, .ref a4, .int n3])), (a1, .inl (gI g, 200, .inl md_68))]) [0, 1] rfl) (hD.sub (ws' := [(h0, .inr (4, [.ref a1, .int (nI (z_M_addOwn (z_M_one (z_M_addOwn (z_M_one (z_M_addOwn (z_M_add (z_M_add xs 456901681454) 465491093294) 11) 36) (t - 1)) 36) t).length), .ref a2, .int n2, .ref a3, .ref a4, .int n3])), (a1, .inl (gI g, 200, .inl md_68))]) [0, 1] rfl rfl) hS ⟨md_68, by rw [e], by rw [e]; exact hm_68, by rw [e]; omega, by rw [e]; omega⟩ (by first | exact Nat.le_of_ble_eq_true rfl | (dsimp only; omega) | omega) (by first | exact Nat.le_of_ble_eq_true rfl | (dsimp only; omega) | omega) d_M_addName_86
          · skip
            refine lv_aload_n hx hb d_M_addName_75 rfl (lv_at hl 0 rfl) ?_
            refine lv_bipush (v := 49) hx hb d_M_addName_76 (by decide) ?_
            refine go_v (wr := []) (run_V hF (c_M_one g l _ h0 a1 a2 a3 a4 n2 n3 (z_M_one (z_M_addOwn (z_M_one (z_M_addOwn (z_M_add (z_M_add xs 456901681454) 465491093294) 11) 36) (t - 1)) 36) md_65 hm_65 49 (by omega)) k_M_one j_M_79 se_M_M_one (va_recv hK hP (ci := 4) (q0 := 0) rfl rfl) (cw_down G hP hD hS hA [0, 1] rfl rfl) ⟨Nat.le_of_ble_eq_true rfl, Nat.le_of_ble_eq_true rfl⟩ rfl hl.1 (Nat.le_of_ble_eq_true rfl) d_M_addName_78 ⟨(by first | exact Nat.le_of_ble_eq_true rfl | (dsimp only; omega) | omega), (by first | exact Nat.le_of_ble_eq_true rfl | (dsimp only; omega) | omega)⟩) hP hD hS hA [0, 1] [] rfl rfl rfl (by decide) (fun w1 H locs hp hP hD hS => ?_)
            obtain ⟨md_70, rfl, hm_70, hn_70, hn_70b⟩ := hp
            have hP : va_P (gD g) classes [(h0, .inr (4, [.ref a1, .int (nI (z_M_one (z_M_one (z_M_addOwn (z_M_one (z_M_addOwn (z_M_add (z_M_add xs 456901681454) 465491093294) 11) 36) (t - 1)) 36) 49).length), .ref a2, .int n2, .ref a3, .ref a4, .int n3])), (a1, .inl (gI g, 200, .inl md_70))] H := hP
            have hD : va_D A [(h0, .inr (4, [.ref a1, .int (nI (z_M_one (z_M_one (z_M_addOwn (z_M_one (z_M_addOwn (z_M_add (z_M_add xs 456901681454) 465491093294) 11) 36) (t - 1)) 36) 49).length), .ref a2, .int n2, .ref a3, .ref a4, .int n3])), (a1, .inl (gI g, 200, .inl md_70))] := hD
            refine lv_aload_n hx hb d_M_addName_81 rfl (lv_at hl 0 rfl) ?_
            refine lv_iload_n hx hb d_M_addName_82 rfl (lv_at hl 1 rfl) ?_
            refine go_v (wr := []) (run_V hF (c_M_addOwn g l _ h0 a1 a2 a3 a4 n2 n3 (z_M_one (z_M_one (z_M_addOwn (z_M_one (z_M_addOwn (z_M_add (z_M_add xs 456901681454) 465491093294) 11) 36) (t - 1)) 36) 49) md_70 hm_70 t (by omega)) k_M_addOwn j_M_99 se_M_M_addOwn (va_recv hK hP (ci := 4) (q0 := 0) rfl rfl) (cw_down G hP hD hS hA [0, 1] rfl rfl) ⟨Nat.le_of_ble_eq_true rfl, Nat.le_of_ble_eq_true rfl⟩ rfl hl.1 (Nat.le_of_ble_eq_true rfl) d_M_addName_83 ⟨(by first | exact Nat.le_of_ble_eq_true rfl | (dsimp only; omega) | omega), (by first | exact Nat.le_of_ble_eq_true rfl | (dsimp only; omega) | omega)⟩) hP hD hS hA [0, 1] [] rfl rfl rfl (by decide) (fun w1 H locs hp hP hD hS => ?_)
            obtain ⟨md_72, rfl, hm_72, hn_72, hn_72b⟩ := hp
            have hP : va_P (gD g) classes [(h0, .inr (4, [.ref a1, .int (nI (z_M_addOwn (z_M_one (z_M_one (z_M_addOwn (z_M_one (z_M_addOwn (z_M_add (z_M_add xs 456901681454) 465491093294) 11) 36) (t - 1)) 36) 49) t).length), .ref a2, .int n2, .ref a3, .ref a4, .int n3])), (a1, .inl (gI g, 200, .inl md_72))] H := hP
            have hD : va_D A [(h0, .inr (4, [.ref a1, .int (nI (z_M_addOwn (z_M_one (z_M_one (z_M_addOwn (z_M_one (z_M_addOwn (z_M_add (z_M_add xs 456901681454) 465491093294) 11) 36) (t - 1)) 36) 49) t).length), .ref a2, .int n2, .ref a3, .ref a4, .int n3])), (a1, .inl (gI g, 200, .inl md_72))] := hD
            have e : z_M_addName xs t = (z_M_addOwn (z_M_one (z_M_one (z_M_addOwn (z_M_one (z_M_addOwn (z_M_add (z_M_add xs 456901681454) 465491093294) 11) 36) (t - 1)) 36) 49) t) := by rw [z_M_addName, if_pos c_1, if_neg c_6, if_neg c_42, if_pos c_54, if_pos c_66]
            exact ret_v hx hb hr hlk (hP.sub (ws' := [(h0, .inr (4, [.ref a1, .int (nI (z_M_addOwn (z_M_one (z_M_one (z_M_addOwn (z_M_one (z_M_addOwn (z_M_add (z_M_add xs 456901681454) 465491093294) 11) 36) (t - 1)) 36) 49) t).length), .ref a2, .int n2, .ref a3, .ref a4, .int n3])), (a1, .inl (gI g, 200, .inl md_72))]) [0, 1] rfl) (hD.sub (ws' := [(h0, .inr (4, [.ref a1, .int (nI (z_M_addOwn (z_M_one (z_M_one (z_M_addOwn (z_M_one (z_M_addOwn (z_M_add (z_M_add xs 456901681454) 465491093294) 11) 36) (t - 1)) 36) 49) t).length), .ref a2, .int n2, .ref a3, .ref a4, .int n3])), (a1, .inl (gI g, 200, .inl md_72))]) [0, 1] rfl rfl) hS ⟨md_72, by rw [e], by rw [e]; exact hm_72, by rw [e]; omega, by rw [e]; omega⟩ (by first | exact Nat.le_of_ble_eq_true rfl | (dsimp only; omega) | omega) (by first | exact Nat.le_of_ble_eq_true rfl | (dsimp only; omega) | omega) d_M_addName_86
  · skip
    refine lv_iload_n hx hb d_M_addName_6 rfl (lv_at hl 1 rfl) ?_
    refine lv_bipush (v := 10) hx hb d_M_addName_7 (by decide) ?_
    refine lv_icmp_ne (tgt := 26) hx hb d_M_addName_9 (by decide) (fun c_73 => ?_) (fun c_73 => ?_)
    · skip
      refine lv_iload_n hx hb d_M_addName_26 rfl (lv_at hl 1 rfl) ?_
      refine lv_bipush (v := 11) hx hb d_M_addName_27 (by decide) ?_
      refine lv_icmp_le (tgt := 44) hx hb d_M_addName_29 (by decide) (fun c_74 => ?_) (fun c_74 => ?_)
      · skip
        refine lv_iload_n hx hb d_M_addName_44 rfl (lv_at hl 1 rfl) ?_
        refine lv_bipush (v := 17) hx hb d_M_addName_45 (by decide) ?_
        refine lv_icmp_eq (tgt := 56) hx hb d_M_addName_47 (by decide) (fun c_75 => ?_) (fun c_75 => ?_)
        · skip
          refine lv_aload_n hx hb d_M_addName_56 rfl (lv_at hl 0 rfl) ?_
          refine lv_iload_n hx hb d_M_addName_57 rfl (lv_at hl 1 rfl) ?_
          refine lv_iconst (v := 1) hx hb d_M_addName_58 (by decide) ?_
          refine lv_isub hx hb d_M_addName_59 ?_
          refine go_v (wr := []) (run_V hF (c_M_addOwn g l _ h0 a1 a2 a3 a4 n2 n3 xs md hm (t - 1) (by omega)) k_M_addOwn j_M_99 se_M_M_addOwn (va_recv hK hP (ci := 4) (q0 := 0) rfl rfl) (cw_down G hP hD hS hA [0, 1] rfl rfl) ⟨Nat.le_of_ble_eq_true rfl, Nat.le_of_ble_eq_true rfl⟩ rfl hl.1 (Nat.le_of_ble_eq_true rfl) d_M_addName_60 ⟨(by first | exact Nat.le_of_ble_eq_true rfl | (dsimp only; omega) | omega), (by first | exact Nat.le_of_ble_eq_true rfl | (dsimp only; omega) | omega)⟩) hP hD hS hA [0, 1] [] rfl rfl rfl (by decide) (fun w1 H locs hp hP hD hS => ?_)
          obtain ⟨md_77, rfl, hm_77, hn_77, hn_77b⟩ := hp
          have hP : va_P (gD g) classes [(h0, .inr (4, [.ref a1, .int (nI (z_M_addOwn xs (t - 1)).length), .ref a2, .int n2, .ref a3, .ref a4, .int n3])), (a1, .inl (gI g, 200, .inl md_77))] H := hP
          have hD : va_D A [(h0, .inr (4, [.ref a1, .int (nI (z_M_addOwn xs (t - 1)).length), .ref a2, .int n2, .ref a3, .ref a4, .int n3])), (a1, .inl (gI g, 200, .inl md_77))] := hD
          refine lv_aload_n hx hb d_M_addName_63 rfl (lv_at hl 0 rfl) ?_
          refine lv_bipush (v := 36) hx hb d_M_addName_64 (by decide) ?_
          refine go_v (wr := []) (run_V hF (c_M_one g l _ h0 a1 a2 a3 a4 n2 n3 (z_M_addOwn xs (t - 1)) md_77 hm_77 36 (by omega)) k_M_one j_M_79 se_M_M_one (va_recv hK hP (ci := 4) (q0 := 0) rfl rfl) (cw_down G hP hD hS hA [0, 1] rfl rfl) ⟨Nat.le_of_ble_eq_true rfl, Nat.le_of_ble_eq_true rfl⟩ rfl hl.1 (Nat.le_of_ble_eq_true rfl) d_M_addName_66 ⟨(by first | exact Nat.le_of_ble_eq_true rfl | (dsimp only; omega) | omega), (by first | exact Nat.le_of_ble_eq_true rfl | (dsimp only; omega) | omega)⟩) hP hD hS hA [0, 1] [] rfl rfl rfl (by decide) (fun w1 H locs hp hP hD hS => ?_)
          obtain ⟨md_79, rfl, hm_79, hn_79, hn_79b⟩ := hp
          have hP : va_P (gD g) classes [(h0, .inr (4, [.ref a1, .int (nI (z_M_one (z_M_addOwn xs (t - 1)) 36).length), .ref a2, .int n2, .ref a3, .ref a4, .int n3])), (a1, .inl (gI g, 200, .inl md_79))] H := hP
          have hD : va_D A [(h0, .inr (4, [.ref a1, .int (nI (z_M_one (z_M_addOwn xs (t - 1)) 36).length), .ref a2, .int n2, .ref a3, .ref a4, .int n3])), (a1, .inl (gI g, 200, .inl md_79))] := hD
          refine lv_iload_n hx hb d_M_addName_69 rfl (lv_at hl 1 rfl) ?_
          refine lv_bipush (v := 23) hx hb d_M_addName_70 (by decide) ?_
          refine lv_icmp_ne (tgt := 81) hx hb d_M_addName_72 (by decide) (fun c_80 => ?_) (fun c_80 => ?_)
          · skip
            refine lv_aload_n hx hb d_M_addName_81 rfl (lv_at hl 0 rfl) ?_
            refine lv_iload_n hx hb d_M_addName_82 rfl (lv_at hl 1 rfl) ?_
            refine go_v (wr := []) (run_V hF (c_M_addOwn g l _ h0 a1 a2 a3 a4 n2 n3 (z_M_one (z_M_addOwn xs (t - 1)) 36) md_79 hm_79 t (by omega)) k_M_addOwn j_M_99 se_M_M_addOwn (va_recv hK hP (ci := 4) (q0 := 0) rfl rfl) (cw_down G hP hD hS hA [0, 1] rfl rfl) ⟨Nat.le_of_ble_eq_true rfl, Nat.le_of_ble_eq_true rfl⟩ rfl hl.1 (Nat.le_of_ble_eq_true rfl) d_M_addName_83 ⟨(by first | exact Nat.le_of_ble_eq_true rfl | (dsimp only; omega) | omega), (by first | exact Nat.le_of_ble_eq_true rfl | (dsimp only; omega) | omega)⟩) hP hD hS hA [0, 1] [] rfl rfl rfl (by decide) (fun w1 H locs hp hP hD hS => ?_)
            obtain ⟨md_82, rfl, hm_82, hn_82, hn_82b⟩ := hp
            have hP : va_P (gD g) classes [(h0, .inr (4, [.ref a1, .int (nI (z_M_addOwn (z_M_one (z_M_addOwn xs (t - 1)) 36) t).length), .ref a2, .int n2, .ref a3, .ref a4, .int n3])), (a1, .inl (gI g, 200, .inl md_82))] H := hP
            have hD : va_D A [(h0, .inr (4, [.ref a1, .int (nI (z_M_addOwn (z_M_one (z_M_addOwn xs (t - 1)) 36) t).length), .ref a2, .int n2, .ref a3, .ref a4, .int n3])), (a1, .inl (gI g, 200, .inl md_82))] := hD
            have e : z_M_addName xs t = (z_M_addOwn (z_M_one (z_M_addOwn xs (t - 1)) 36) t) := by rw [z_M_addName, if_neg c_1, if_neg c_73, if_pos c_74, if_pos c_75, if_neg c_80]
            exact ret_v hx hb hr hlk (hP.sub (ws' := [(h0, .inr (4, [.ref a1, .int (nI (z_M_addOwn (z_M_one (z_M_addOwn xs (t - 1)) 36) t).length), .ref a2, .int n2, .ref a3, .ref a4, .int n3])), (a1, .inl (gI g, 200, .inl md_82))]) [0, 1] rfl) (hD.sub (ws' := [(h0, .inr (4, [.ref a1, .int (nI (z_M_addOwn (z_M_one (z_M_addOwn xs (t - 1)) 36) t).length), .ref a2, .int n2, .ref a3, .ref a4, .int n3])), (a1, .inl (gI g, 200, .inl md_82))]) [0, 1] rfl rfl) hS ⟨md_82, by rw [e], by rw [e]; exact hm_82, by rw [e]; omega, by rw [e]; omega⟩ (by first | exact Nat.le_of_ble_eq_true rfl | (dsimp only; omega) | omega) (by first | exact Nat.le_of_ble_eq_true rfl | (dsimp only; omega) | omega) d_M_addName_86
          · skip
            refine lv_aload_n hx hb d_M_addName_75 rfl (lv_at hl 0 rfl) ?_
            refine lv_bipush (v := 49) hx hb d_M_addName_76 (by decide) ?_
            refine go_v (wr := []) (run_V hF (c_M_one g l _ h0 a1 a2 a3 a4 n2 n3 (z_M_one (z_M_addOwn xs (t - 1)) 36) md_79 hm_79 49 (by omega)) k_M_one j_M_79 se_M_M_one (va_recv hK hP (ci := 4) (q0 := 0) rfl rfl) (cw_down G hP hD hS hA [0, 1] rfl rfl) ⟨Nat.le_of_ble_eq_true rfl, Nat.le_of_ble_eq_true rfl⟩ rfl hl.1 (Nat.le_of_ble_eq_true rfl) d_M_addName_78 ⟨(by first | exact Nat.le_of_ble_eq_true rfl | (dsimp only; omega) | omega), (by first | exact Nat.le_of_ble_eq_true rfl | (dsimp only; omega) | omega)⟩) hP hD hS hA [0, 1] [] rfl rfl rfl (by decide) (fun w1 H locs hp hP hD hS => ?_)
            obtain ⟨md_84, rfl, hm_84, hn_84, hn_84b⟩ := hp
            have hP : va_P (gD g) classes [(h0, .inr (4, [.ref a1, .int (nI (z_M_one (z_M_one (z_M_addOwn xs (t - 1)) 36) 49).length), .ref a2, .int n2, .ref a3, .ref a4, .int n3])), (a1, .inl (gI g, 200, .inl md_84))] H := hP
            have hD : va_D A [(h0, .inr (4, [.ref a1, .int (nI (z_M_one (z_M_one (z_M_addOwn xs (t - 1)) 36) 49).length), .ref a2, .int n2, .ref a3, .ref a4, .int n3])), (a1, .inl (gI g, 200, .inl md_84))] := hD
            refine lv_aload_n hx hb d_M_addName_81 rfl (lv_at hl 0 rfl) ?_
            refine lv_iload_n hx hb d_M_addName_82 rfl (lv_at hl 1 rfl) ?_
            refine go_v (wr := []) (run_V hF (c_M_addOwn g l _ h0 a1 a2 a3 a4 n2 n3 (z_M_one (z_M_one (z_M_addOwn xs (t - 1)) 36) 49) md_84 hm_84 t (by omega)) k_M_addOwn j_M_99 se_M_M_addOwn (va_recv hK hP (ci := 4) (q0 := 0) rfl rfl) (cw_down G hP hD hS hA [0, 1] rfl rfl) ⟨Nat.le_of_ble_eq_true rfl, Nat.le_of_ble_eq_true rfl⟩ rfl hl.1 (Nat.le_of_ble_eq_true rfl) d_M_addName_83 ⟨(by first | exact Nat.le_of_ble_eq_true rfl | (dsimp only; omega) | omega), (by first | exact Nat.le_of_ble_eq_true rfl | (dsimp only; omega) | omega)⟩) hP hD hS hA [0, 1] [] rfl rfl rfl (by decide) (fun w1 H locs hp hP hD hS => ?_)
            obtain ⟨md_86, rfl, hm_86, hn_86, hn_86b⟩ := hp
            have hP : va_P (gD g) classes [(h0, .inr (4, [.ref a1, .int (nI (z_M_addOwn (z_M_one (z_M_one (z_M_addOwn xs (t - 1)) 36) 49) t).length), .ref a2, .int n2, .ref a3, .ref a4, .int n3])), (a1, .inl (gI g, 200, .inl md_86))] H := hP
            have hD : va_D A [(h0, .inr (4, [.ref a1, .int (nI (z_M_addOwn (z_M_one (z_M_one (z_M_addOwn xs (t - 1)) 36) 49) t).length), .ref a2, .int n2, .ref a3, .ref a4, .int n3])), (a1, .inl (gI g, 200, .inl md_86))] := hD
            have e : z_M_addName xs t = (z_M_addOwn (z_M_one (z_M_one (z_M_addOwn xs (t - 1)) 36) 49) t) := by rw [z_M_addName, if_neg c_1, if_neg c_73, if_pos c_74, if_pos c_75, if_pos c_80]
            exact ret_v hx hb hr hlk (hP.sub (ws' := [(h0, .inr (4, [.ref a1, .int (nI (z_M_addOwn (z_M_one (z_M_one (z_M_addOwn xs (t - 1)) 36) 49) t).length), .ref a2, .int n2, .ref a3, .ref a4, .int n3])), (a1, .inl (gI g, 200, .inl md_86))]) [0, 1] rfl) (hD.sub (ws' := [(h0, .inr (4, [.ref a1, .int (nI (z_M_addOwn (z_M_one (z_M_one (z_M_addOwn xs (t - 1)) 36) 49) t).length), .ref a2, .int n2, .ref a3, .ref a4, .int n3])), (a1, .inl (gI g, 200, .inl md_86))]) [0, 1] rfl rfl) hS ⟨md_86, by rw [e], by rw [e]; exact hm_86, by rw [e]; omega, by rw [e]; omega⟩ (by first | exact Nat.le_of_ble_eq_true rfl | (dsimp only; omega) | omega) (by first | exact Nat.le_of_ble_eq_true rfl | (dsimp only; omega) | omega) d_M_addName_86
        · skip
          refine lv_iload_n hx hb d_M_addName_50 rfl (lv_at hl 1 rfl) ?_
          refine lv_bipush (v := 19) hx hb d_M_addName_51 (by decide) ?_
          refine lv_icmp_ne (tgt := 69) hx hb d_M_addName_53 (by decide) (fun c_87 => ?_) (fun c_87 => ?_)
          · skip
            refine lv_iload_n hx hb d_M_addName_69 rfl (lv_at hl 1 rfl) ?_
            refine lv_bipush (v := 23) hx hb d_M_addName_70 (by decide) ?_
            refine lv_icmp_ne (tgt := 81) hx hb d_M_addName_72 (by decide) (fun c_88 => ?_) (fun c_88 => ?_)
            · skip
              refine lv_aload_n hx hb d_M_addName_81 rfl (lv_at hl 0 rfl) ?_
              refine lv_iload_n hx hb d_M_addName_82 rfl (lv_at hl 1 rfl) ?_
              refine go_v (wr := []) (run_V hF (c_M_addOwn g l _ h0 a1 a2 a3 a4 n2 n3 xs md hm t (by omega)) k_M_addOwn j_M_99 se_M_M_addOwn (va_recv hK hP (ci := 4) (q0 := 0) rfl rfl) (cw_down G hP hD hS hA [0, 1] rfl rfl) ⟨Nat.le_of_ble_eq_true rfl, Nat.le_of_ble_eq_true rfl⟩ rfl hl.1 (Nat.le_of_ble_eq_true rfl) d_M_addName_83 ⟨(by first | exact Nat.le_of_ble_eq_true rfl | (dsimp only; omega) | omega), (by first | exact Nat.le_of_ble_eq_true rfl | (dsimp only; omega) | omega)⟩) hP hD hS hA [0, 1] [] rfl rfl rfl (by decide) (fun w1 H locs hp hP hD hS => ?_)
              obtain ⟨md_90, rfl, hm_90, hn_90, hn_90b⟩ := hp
              have hP : va_P (gD g) classes [(h0, .inr (4, [.ref a1, .int (nI (z_M_addOwn xs t).length), .ref a2, .int n2, .ref a3, .ref a4, .int n3])), (a1, .inl (gI g, 200, .inl md_90))] H := hP
              have hD : va_D A [(h0, .inr (4, [.ref a1, .int (nI (z_M_addOwn xs t).length), .ref a2, .int n2, .ref a3, .ref a4, .int n3])), (a1, .inl (gI g, 200, .inl md_90))] := hD
              have e : z_M_addName xs t = (z_M_addOwn xs t) := by rw [z_M_addName, if_neg c_1, if_neg c_73, if_pos c_74, if_neg c_75, if_neg c_87, if_neg c_88]
              exact ret_v hx hb hr hlk (hP.sub (ws' := [(h0, .inr (4, [.ref a1, .int (nI (z_M_addOwn xs t).length), .ref a2, .int n2, .ref a3, .ref a4, .int n3])), (a1, .inl (gI g, 200, .inl md_90))]) [0, 1] rfl) (hD.sub (ws' := [(h0, .inr (4, [.ref a1, .int (nI (z_M_addOwn xs t).length), .ref a2, .int n2, .ref a3, .ref a4, .int n3])), (a1, .inl (gI g, 200, .inl md_90))]) [0, 1] rfl rfl) hS ⟨md_90, by rw [e], by rw [e]; exact hm_90, by rw [e]; omega, by rw [e]; omega⟩ (by first | exact Nat.le_of_ble_eq_true rfl | (dsimp only; omega) | omega) (by first | exact Nat.le_of_ble_eq_true rfl | (dsimp only; omega) | omega) d_M_addName_86
            · skip
              refine lv_aload_n hx hb d_M_addName_75 rfl (lv_at hl 0 rfl) ?_
              refine lv_bipush (v := 49) hx hb d_M_addName_76 (by decide) ?_
              refine go_v (wr := []) (run_V hF (c_M_one g l _ h0 a1 a2 a3 a4 n2 n3 xs md hm 49 (by omega)) k_M_one j_M_79 se_M_M_one (va_recv hK hP (ci := 4) (q0 := 0) rfl rfl) (cw_down G hP hD hS hA [0, 1] rfl rfl) ⟨Nat.le_of_ble_eq_true rfl, Nat.le_of_ble_eq_true rfl⟩ rfl hl.1 (Nat.le_of_ble_eq_true rfl) d_M_addName_78 ⟨(by first | exact Nat.le_of_ble_eq_true rfl | (dsimp only; omega) | omega), (by first | exact Nat.le_of_ble_eq_true rfl | (dsimp only; omega) | omega)⟩) hP hD hS hA [0, 1] [] rfl rfl rfl (by decide) (fun w1 H locs hp hP hD hS => ?_)
              obtain ⟨md_92, rfl, hm_92, hn_92, hn_92b⟩ := hp
              have hP : va_P (gD g) classes [(h0, .inr (4, [.ref a1, .int (nI (z_M_one xs 49).length), .ref a2, .int n2, .ref a3, .ref a4, .int n3])), (a1, .inl (gI g, 200, .inl md_92))] H := hP
              have hD : va_D A [(h0, .inr (4, [.ref a1, .int (nI (z_M_one xs 49).length), .ref a2, .int n2, .ref a3, .ref a4, .int n3])), (a1, .inl (gI g, 200, .inl md_92))] := hD
              refine lv_aload_n hx hb d_M_addName_81 rfl (lv_at hl 0 rfl) ?_
              refine lv_iload_n hx hb d_M_addName_82 rfl (lv_at hl 1 rfl) ?_
              refine go_v (wr := []) (run_V hF (c_M_addOwn g l _ h0 a1 a2 a3 a4 n2 n3 (z_M_one xs 49) md_92 hm_92 t (by omega)) k_M_addOwn j_M_99 se_M_M_addOwn (va_recv hK hP (ci := 4) (q0 := 0) rfl rfl) (cw_down G hP hD hS hA [0, 1] rfl rfl) ⟨Nat.le_of_ble_eq_true rfl, Nat.le_of_ble_eq_true rfl⟩ rfl hl.1 (Nat.le_of_ble_eq_true rfl) d_M_addName_83 ⟨(by first | exact Nat.le_of_ble_eq_true rfl | (dsimp only; omega) | omega), (by first | exact Nat.le_of_ble_eq_true rfl | (dsimp only; omega) | omega)⟩) hP hD hS hA [0, 1] [] rfl rfl rfl (by decide) (fun w1 H locs hp hP hD hS => ?_)
              obtain ⟨md_94, rfl, hm_94, hn_94, hn_94b⟩ := hp
              have hP : va_P (gD g) classes [(h0, .inr (4, [.ref a1, .int (nI (z_M_addOwn (z_M_one xs 49) t).length), .ref a2, .int n2, .ref a3, .ref a4, .int n3])), (a1, .inl (gI g, 200, .inl md_94))] H := hP
              have hD : va_D A [(h0, .inr (4, [.ref a1, .int (nI (z_M_addOwn (z_M_one xs 49) t).length), .ref a2, .int n2, .ref a3, .ref a4, .int n3])), (a1, .inl (gI g, 200, .inl md_94))] := hD
              have e : z_M_addName xs t = (z_M_addOwn (z_M_one xs 49) t) := by rw [z_M_addName, if_neg c_1, if_neg c_73, if_pos c_74, if_neg c_75, if_neg c_87, if_pos c_88]
              exact ret_v hx hb hr hlk (hP.sub (ws' := [(h0, .inr (4, [.ref a1, .int (nI (z_M_addOwn (z_M_one xs 49) t).length), .ref a2, .int n2, .ref a3, .ref a4, .int n3])), (a1, .inl (gI g, 200, .inl md_94))]) [0, 1] rfl) (hD.sub (ws' := [(h0, .inr (4, [.ref a1, .int (nI (z_M_addOwn (z_M_one xs 49) t).length), .ref a2, .int n2, .ref a3, .ref a4, .int n3])), (a1, .inl (gI g, 200, .inl md_94))]) [0, 1] rfl rfl) hS ⟨md_94, by rw [e], by rw [e]; exact hm_94, by rw [e]; omega, by rw [e]; omega⟩ (by first | exact Nat.le_of_ble_eq_true rfl | (dsimp only; omega) | omega) (by first | exact Nat.le_of_ble_eq_true rfl | (dsimp only; omega) | omega) d_M_addName_86
          · skip
            refine lv_aload_n hx hb d_M_addName_56 rfl (lv_at hl 0 rfl) ?_
            refine lv_iload_n hx hb d_M_addName_57 rfl (lv_at hl 1 rfl) ?_
            refine lv_iconst (v := 1) hx hb d_M_addName_58 (by decide) ?_
            refine lv_isub hx hb d_M_addName_59 ?_
            refine go_v (wr := []) (run_V hF (c_M_addOwn g l _ h0 a1 a2 a3 a4 n2 n3 xs md hm (t - 1) (by omega)) k_M_addOwn j_M_99 se_M_M_addOwn (va_recv hK hP (ci := 4) (q0 := 0) rfl rfl) (cw_down G hP hD hS hA [0, 1] rfl rfl) ⟨Nat.le_of_ble_eq_true rfl, Nat.le_of_ble_eq_true rfl⟩ rfl hl.1 (Nat.le_of_ble_eq_true rfl) d_M_addName_60 ⟨(by first | exact Nat.le_of_ble_eq_true rfl | (dsimp only; omega) | omega), (by first | exact Nat.le_of_ble_eq_true rfl | (dsimp only; omega) | omega)⟩) hP hD hS hA [0, 1] [] rfl rfl rfl (by decide) (fun w1 H locs hp hP hD hS => ?_)
            obtain ⟨md_96, rfl, hm_96, hn_96, hn_96b⟩ := hp
            have hP : va_P (gD g) classes [(h0, .inr (4, [.ref a1, .int (nI (z_M_addOwn xs (t - 1)).length), .ref a2, .int n2, .ref a3, .ref a4, .int n3])), (a1, .inl (gI g, 200, .inl md_96))] H := hP
            have hD : va_D A [(h0, .inr (4, [.ref a1, .int (nI (z_M_addOwn xs (t - 1)).length), .ref a2, .int n2, .ref a3, .ref a4, .int n3])), (a1, .inl (gI g, 200, .inl md_96))] := hD
            refine lv_aload_n hx hb d_M_addName_63 rfl (lv_at hl 0 rfl) ?_
            refine lv_bipush (v := 36) hx hb d_M_addName_64 (by decide) ?_
            refine go_v (wr := []) (run_V hF (c_M_one g l _ h0 a1 a2 a3 a4 n2 n3 (z_M_addOwn xs (t - 1)) md_96 hm_96 36 (by omega)) k_M_one j_M_79 se_M_M_one (va_recv hK hP (ci := 4) (q0 := 0) rfl rfl) (cw_down G hP hD hS hA [0, 1] rfl rfl) ⟨Nat.le_of_ble_eq_true rfl, Nat.le_of_ble_eq_true rfl⟩ rfl hl.1 (Nat.le_of_ble_eq_true rfl) d_M_addName_66 ⟨(by first | exact Nat.le_of_ble_eq_true rfl | (dsimp only; omega) | omega), (by first | exact Nat.le_of_ble_eq_true rfl | (dsimp only; omega) | omega)⟩) hP hD hS hA [0, 1] [] rfl rfl rfl (by decide) (fun w1 H locs hp hP hD hS => ?_)
            obtain ⟨md_98, rfl, hm_98, hn_98, hn_98b⟩ := hp
            have hP : va_P (gD g) classes [(h0, .inr (4, [.ref a1, .int (nI (z_M_one (z_M_addOwn xs (t - 1)) 36).length), .ref a2, .int n2, .ref a3, .ref a4, .int n3])), (a1, .inl (gI g, 200, .inl md_98))] H := hP
            have hD : va_D A [(h0, .inr (4, [.ref a1, .int (nI (z_M_one (z_M_addOwn xs (t - 1)) 36).length), .ref a2, .int n2, .ref a3, .ref a4, .int n3])), (a1, .inl (gI g, 200, .inl md_98))] := hD
            refine lv_iload_n hx hb d_M_addName_69 rfl (lv_at hl 1 rfl) ?_
            refine lv_bipush (v := 23) hx hb d_M_addName_70 (by decide) ?_
            refine lv_icmp_ne (tgt := 81) hx hb d_M_addName_72 (by decide) (fun c_99 => ?_) (fun c_99 => ?_)
            · skip
              refine lv_aload_n hx hb d_M_addName_81 rfl (lv_at hl 0 rfl) ?_
              refine lv_iload_n hx hb d_M_addName_82 rfl (lv_at hl 1 rfl) ?_
              refine go_v (wr := []) (run_V hF (c_M_addOwn g l _ h0 a1 a2 a3 a4 n2 n3 (z_M_one (z_M_addOwn xs (t - 1)) 36) md_98 hm_98 t (by omega)) k_M_addOwn j_M_99 se_M_M_addOwn (va_recv hK hP (ci := 4) (q0 := 0) rfl rfl) (cw_down G hP hD hS hA [0, 1] rfl rfl) ⟨Nat.le_of_ble_eq_true rfl, Nat.le_of_ble_eq_true rfl⟩ rfl hl.1 (Nat.le_of_ble_eq_true rfl) d_M_addName_83 ⟨(by first | exact Nat.le_of_ble_eq_true rfl | (dsimp only; omega) | omega), (by first | exact Nat.le_of_ble_eq_true rfl | (dsimp only; omega) | omega)⟩) hP hD hS hA [0, 1] [] rfl rfl rfl (by decide) (fun w1 H locs hp hP hD hS => ?_)
              obtain ⟨md_101, rfl, hm_101, hn_101, hn_101b⟩ := hp
              have hP : va_P (gD g) classes [(h0, .inr (4, [.ref a1, .int (nI (z_M_addOwn (z_M_one (z_M_addOwn xs (t - 1)) 36) t).length), .ref a2, .int n2, .ref a3, .ref a4, .int n3])), (a1, .inl (gI g, 200, .inl md_101))] H := hP
              have hD : va_D A [(h0, .inr (4, [.ref a1, .int (nI (z_M_addOwn (z_M_one (z_M_addOwn xs (t - 1)) 36) t).length), .ref a2, .int n2, .ref a3, .ref a4, .int n3])), (a1, .inl (gI g, 200, .inl md_101))] := hD
              have e : z_M_addName xs t = (z_M_addOwn (z_M_one (z_M_addOwn xs (t - 1)) 36) t) := by rw [z_M_addName, if_neg c_1, if_neg c_73, if_pos c_74, if_neg c_75, if_pos c_87, if_neg c_99]
              exact ret_v hx hb hr hlk (hP.sub (ws' := [(h0, .inr (4, [.ref a1, .int (nI (z_M_addOwn (z_M_one (z_M_addOwn xs (t - 1)) 36) t).length), .ref a2, .int n2, .ref a3, .ref a4, .int n3])), (a1, .inl (gI g, 200, .inl md_101))]) [0, 1] rfl) (hD.sub (ws' := [(h0, .inr (4, [.ref a1, .int (nI (z_M_addOwn (z_M_one (z_M_addOwn xs (t - 1)) 36) t).length), .ref a2, .int n2, .ref a3, .ref a4, .int n3])), (a1, .inl (gI g, 200, .inl md_101))]) [0, 1] rfl rfl) hS ⟨md_101, by rw [e], by rw [e]; exact hm_101, by rw [e]; omega, by rw [e]; omega⟩ (by first | exact Nat.le_of_ble_eq_true rfl | (dsimp only; omega) | omega) (by first | exact Nat.le_of_ble_eq_true rfl | (dsimp only; omega) | omega) d_M_addName_86
            · skip
              refine lv_aload_n hx hb d_M_addName_75 rfl (lv_at hl 0 rfl) ?_
              refine lv_bipush (v := 49) hx hb d_M_addName_76 (by decide) ?_
              refine go_v (wr := []) (run_V hF (c_M_one g l _ h0 a1 a2 a3 a4 n2 n3 (z_M_one (z_M_addOwn xs (t - 1)) 36) md_98 hm_98 49 (by omega)) k_M_one j_M_79 se_M_M_one (va_recv hK hP (ci := 4) (q0 := 0) rfl rfl) (cw_down G hP hD hS hA [0, 1] rfl rfl) ⟨Nat.le_of_ble_eq_true rfl, Nat.le_of_ble_eq_true rfl⟩ rfl hl.1 (Nat.le_of_ble_eq_true rfl) d_M_addName_78 ⟨(by first | exact Nat.le_of_ble_eq_true rfl | (dsimp only; omega) | omega), (by first | exact Nat.le_of_ble_eq_true rfl | (dsimp only; omega) | omega)⟩) hP hD hS hA [0, 1] [] rfl rfl rfl (by decide) (fun w1 H locs hp hP hD hS => ?_)
              obtain ⟨md_103, rfl, hm_103, hn_103, hn_103b⟩ := hp
              have hP : va_P (gD g) classes [(h0, .inr (4, [.ref a1, .int (nI (z_M_one (z_M_one (z_M_addOwn xs (t - 1)) 36) 49).length), .ref a2, .int n2, .ref a3, .ref a4, .int n3])), (a1, .inl (gI g, 200, .inl md_103))] H := hP
              have hD : va_D A [(h0, .inr (4, [.ref a1, .int (nI (z_M_one (z_M_one (z_M_addOwn xs (t - 1)) 36) 49).length), .ref a2, .int n2, .ref a3, .ref a4, .int n3])), (a1, .inl (gI g, 200, .inl md_103))] := hD
              refine lv_aload_n hx hb d_M_addName_81 rfl (lv_at hl 0 rfl) ?_
              refine lv_iload_n hx hb d_M_addName_82 rfl (lv_at hl 1 rfl) ?_
              refine go_v (wr := []) (run_V hF (c_M_addOwn g l _ h0 a1 a2 a3 a4 n2 n3 (z_M_one (z_M_one (z_M_addOwn xs (t - 1)) 36) 49) md_103 hm_103 t (by omega)) k_M_addOwn j_M_99 se_M_M_addOwn (va_recv hK hP (ci := 4) (q0 := 0) rfl rfl) (cw_down G hP hD hS hA [0, 1] rfl rfl) ⟨Nat.le_of_ble_eq_true rfl, Nat.le_of_ble_eq_true rfl⟩ rfl hl.1 (Nat.le_of_ble_eq_true rfl) d_M_addName_83 ⟨(by first | exact Nat.le_of_ble_eq_true rfl | (dsimp only; omega) | omega), (by first | exact Nat.le_of_ble_eq_true rfl | (dsimp only; omega) | omega)⟩) hP hD hS hA [0, 1] [] rfl rfl rfl (by decide) (fun w1 H locs hp hP hD hS => ?_)
              obtain ⟨md_105, rfl, hm_105, hn_105, hn_105b⟩ := hp
              have hP : va_P (gD g) classes [(h0, .inr (4, [.ref a1, .int (nI (z_M_addOwn (z_M_one (z_M_one (z_M_addOwn xs (t - 1)) 36) 49) t).length), .ref a2, .int n2, .ref a3, .ref a4, .int n3])), (a1, .inl (gI g, 200, .inl md_105))] H := hP
              have hD : va_D A [(h0, .inr (4, [.ref a1, .int (nI (z_M_addOwn (z_M_one (z_M_one (z_M_addOwn xs (t - 1)) 36) 49) t).length), .ref a2, .int n2, .ref a3, .ref a4, .int n3])), (a1, .inl (gI g, 200, .inl md_105))] := hD
              have e : z_M_addName xs t = (z_M_addOwn (z_M_one (z_M_one (z_M_addOwn xs (t - 1)) 36) 49) t) := by rw [z_M_addName, if_neg c_1, if_neg c_73, if_pos c_74, if_neg c_75, if_pos c_87, if_pos c_99]
              exact ret_v hx hb hr hlk (hP.sub (ws' := [(h0, .inr (4, [.ref a1, .int (nI (z_M_addOwn (z_M_one (z_M_one (z_M_addOwn xs (t - 1)) 36) 49) t).length), .ref a2, .int n2, .ref a3, .ref a4, .int n3])), (a1, .inl (gI g, 200, .inl md_105))]) [0, 1] rfl) (hD.sub (ws' := [(h0, .inr (4, [.ref a1, .int (nI (z_M_addOwn (z_M_one (z_M_one (z_M_addOwn xs (t - 1)) 36) 49) t).length), .ref a2, .int n2, .ref a3, .ref a4, .int n3])), (a1, .inl (gI g, 200, .inl md_105))]) [0, 1] rfl rfl) hS ⟨md_105, by rw [e], by rw [e]; exact hm_105, by rw [e]; omega, by rw [e]; omega⟩ (by first | exact Nat.le_of_ble_eq_true rfl | (dsimp only; omega) | omega) (by first | exact Nat.le_of_ble_eq_true rfl | (dsimp only; omega) | omega) d_M_addName_86
      · skip
        refine lv_aload_n hx hb d_M_addName_32 rfl (lv_at hl 0 rfl) ?_
        refine lv_bipush (v := 11) hx hb d_M_addName_33 (by decide) ?_
        refine go_v (wr := []) (run_V hF (c_M_addOwn g l _ h0 a1 a2 a3 a4 n2 n3 xs md hm 11 (by omega)) k_M_addOwn j_M_99 se_M_M_addOwn (va_recv hK hP (ci := 4) (q0 := 0) rfl rfl) (cw_down G hP hD hS hA [0, 1] rfl rfl) ⟨Nat.le_of_ble_eq_true rfl, Nat.le_of_ble_eq_true rfl⟩ rfl hl.1 (Nat.le_of_ble_eq_true rfl) d_M_addName_35 ⟨(by first | exact Nat.le_of_ble_eq_true rfl | (dsimp only; omega) | omega), (by first | exact Nat.le_of_ble_eq_true rfl | (dsimp only; omega) | omega)⟩) hP hD hS hA [0, 1] [] rfl rfl rfl (by decide) (fun w1 H locs hp hP hD hS => ?_)
        obtain ⟨md_107, rfl, hm_107, hn_107, hn_107b⟩ := hp
        have hP : va_P (gD g) classes [(h0, .inr (4, [.ref a1, .int (nI (z_M_addOwn xs 11).length), .ref a2, .int n2, .ref a3, .ref a4, .int n3])), (a1, .inl (gI g, 200, .inl md_107))] H := hP
        have hD : va_D A [(h0, .inr (4, [.ref a1, .int (nI (z_M_addOwn xs 11).length), .ref a2, .int n2, .ref a3, .ref a4, .int n3])), (a1, .inl (gI g, 200, .inl md_107))] := hD
        refine lv_aload_n hx hb d_M_addName_38 rfl (lv_at hl 0 rfl) ?_
        refine lv_bipush (v := 36) hx hb d_M_addName_39 (by decide) ?_
        refine go_v (wr := []) (run_V hF (c_M_one g l _ h0 a1 a2 a3 a4 n2 n3 (z_M_addOwn xs 11) md_107 hm_107 36 (by omega)) k_M_one j_M_79 se_M_M_one (va_recv hK hP (ci := 4) (q0 := 0) rfl rfl) (cw_down G hP hD hS hA [0, 1] rfl rfl) ⟨Nat.le_of_ble_eq_true rfl, Nat.le_of_ble_eq_true rfl⟩ rfl hl.1 (Nat.le_of_ble_eq_true rfl) d_M_addName_41 ⟨(by first | exact Nat.le_of_ble_eq_true rfl | (dsimp only; omega) | omega), (by first | exact Nat.le_of_ble_eq_true rfl | (dsimp only; omega) | omega)⟩) hP hD hS hA [0, 1] [] rfl rfl rfl (by decide) (fun w1 H locs hp hP hD hS => ?_)
        obtain ⟨md_109, rfl, hm_109, hn_109, hn_109b⟩ := hp
        have hP : va_P (gD g) classes [(h0, .inr (4, [.ref a1, .int (nI (z_M_one (z_M_addOwn xs 11) 36).length), .ref a2, .int n2, .ref a3, .ref a4, .int n3])), (a1, .inl (gI g, 200, .inl md_109))] H := hP
        have hD : va_D A [(h0, .inr (4, [.ref a1, .int (nI (z_M_one (z_M_addOwn xs 11) 36).length), .ref a2, .int n2, .ref a3, .ref a4, .int n3])), (a1, .inl (gI g, 200, .inl md_109))] := hD
        refine lv_iload_n hx hb d_M_addName_44 rfl (lv_at hl 1 rfl) ?_
        refine lv_bipush (v := 17) hx hb d_M_addName_45 (by decide) ?_
        refine lv_icmp_eq (tgt := 56) hx hb d_M_addName_47 (by decide) (fun c_110 => ?_) (fun c_110 => ?_)
        · skip
          refine lv_aload_n hx hb d_M_addName_56 rfl (lv_at hl 0 rfl) ?_
          refine lv_iload_n hx hb d_M_addName_57 rfl (lv_at hl 1 rfl) ?_
          refine lv_iconst (v := 1) hx hb d_M_addName_58 (by decide) ?_
          refine lv_isub hx hb d_M_addName_59 ?_
          refine go_v (wr := []) (run_V hF (c_M_addOwn g l _ h0 a1 a2 a3 a4 n2 n3 (z_M_one (z_M_addOwn xs 11) 36) md_109 hm_109 (t - 1) (by omega)) k_M_addOwn j_M_99 se_M_M_addOwn (va_recv hK hP (ci := 4) (q0 := 0) rfl rfl) (cw_down G hP hD hS hA [0, 1] rfl rfl) ⟨Nat.le_of_ble_eq_true rfl, Nat.le_of_ble_eq_true rfl⟩ rfl hl.1 (Nat.le_of_ble_eq_true rfl) d_M_addName_60 ⟨(by first | exact Nat.le_of_ble_eq_true rfl | (dsimp only; omega) | omega), (by first | exact Nat.le_of_ble_eq_true rfl | (dsimp only; omega) | omega)⟩) hP hD hS hA [0, 1] [] rfl rfl rfl (by decide) (fun w1 H locs hp hP hD hS => ?_)
          obtain ⟨md_112, rfl, hm_112, hn_112, hn_112b⟩ := hp
          have hP : va_P (gD g) classes [(h0, .inr (4, [.ref a1, .int (nI (z_M_addOwn (z_M_one (z_M_addOwn xs 11) 36) (t - 1)).length), .ref a2, .int n2, .ref a3, .ref a4, .int n3])), (a1, .inl (gI g, 200, .inl md_112))] H := hP
          have hD : va_D A [(h0, .inr (4, [.ref a1, .int (nI (z_M_addOwn (z_M_one (z_M_addOwn xs 11) 36) (t - 1)).length), .ref a2, .int n2, .ref a3, .ref a4, .int n3])), (a1, .inl (gI g, 200, .inl md_112))] := hD
          refine lv_aload_n hx hb d_M_addName_63 rfl (lv_at hl 0 rfl) ?_
          refine lv_bipush (v := 36) hx hb d_M_addName_64 (by decide) ?_
          refine go_v (wr := []) (run_V hF (c_M_one g l _ h0 a1 a2 a3 a4 n2 n3 (z_M_addOwn (z_M_one (z_M_addOwn xs 11) 36) (t - 1)) md_112 hm_112 36 (by omega)) k_M_one j_M_79 se_M_M_one (va_recv hK hP (ci := 4) (q0 := 0) rfl rfl) (cw_down G hP hD hS hA [0, 1] rfl rfl) ⟨Nat.le_of_ble_eq_true rfl, Nat.le_of_ble_eq_true rfl⟩ rfl hl.1 (Nat.le_of_ble_eq_true rfl) d_M_addName_66 ⟨(by first | exact Nat.le_of_ble_eq_true rfl | (dsimp only; omega) | omega), (by first | exact Nat.le_of_ble_eq_true rfl | (dsimp only; omega) | omega)⟩) hP hD hS hA [0, 1] [] rfl rfl rfl (by decide) (fun w1 H locs hp hP hD hS => ?_)
          obtain ⟨md_114, rfl, hm_114, hn_114, hn_114b⟩ := hp
          have hP : va_P (gD g) classes [(h0, .inr (4, [.ref a1, .int (nI (z_M_one (z_M_addOwn (z_M_one (z_M_addOwn xs 11) 36) (t - 1)) 36).length), .ref a2, .int n2, .ref a3, .ref a4, .int n3])), (a1, .inl (gI g, 200, .inl md_114))] H := hP
          have hD : va_D A [(h0, .inr (4, [.ref a1, .int (nI (z_M_one (z_M_addOwn (z_M_one (z_M_addOwn xs 11) 36) (t - 1)) 36).length), .ref a2, .int n2, .ref a3, .ref a4, .int n3])), (a1, .inl (gI g, 200, .inl md_114))] := hD
          refine lv_iload_n hx hb d_M_addName_69 rfl (lv_at hl 1 rfl) ?_
          refine lv_bipush (v := 23) hx hb d_M_addName_70 (by decide) ?_
          refine lv_icmp_ne (tgt := 81) hx hb d_M_addName_72 (by decide) (fun c_115 => ?_) (fun c_115 => ?_)
          · skip
            refine lv_aload_n hx hb d_M_addName_81 rfl (lv_at hl 0 rfl) ?_
            refine lv_iload_n hx hb d_M_addName_82 rfl (lv_at hl 1 rfl) ?_
            refine go_v (wr := []) (run_V hF (c_M_addOwn g l _ h0 a1 a2 a3 a4 n2 n3 (z_M_one (z_M_addOwn (z_M_one (z_M_addOwn xs 11) 36) (t - 1)) 36) md_114 hm_114 t (by omega)) k_M_addOwn j_M_99 se_M_M_addOwn (va_recv hK hP (ci := 4) (q0 := 0) rfl rfl) (cw_down G hP hD hS hA [0, 1] rfl rfl) ⟨Nat.le_of_ble_eq_true rfl, Nat.le_of_ble_eq_true rfl⟩ rfl hl.1 (Nat.le_of_ble_eq_true rfl) d_M_addName_83 ⟨(by first | exact Nat.le_of_ble_eq_true rfl | (dsimp only; omega) | omega), (by first | exact Nat.le_of_ble_eq_true rfl | (dsimp only; omega) | omega)⟩) hP hD hS hA [0, 1] [] rfl rfl rfl (by decide) (fun w1 H locs hp hP hD hS => ?_)
            obtain ⟨md_117, rfl, hm_117, hn_117, hn_117b⟩ := hp
            have hP : va_P (gD g) classes [(h0, .inr (4, [.ref a1, .int (nI (z_M_addOwn (z_M_one (z_M_addOwn (z_M_one (z_M_addOwn xs 11) 36) (t - 1)) 36) t).length), .ref a2, .int n2, .ref a3, .ref a4, .int n3])), (a1, .inl (gI g, 200, .inl md_117))] H := hP
            have hD : va_D A [(h0, .inr (4, [.ref a1, .int (nI (z_M_addOwn (z_M_one (z_M_addOwn (z_M_one (z_M_addOwn xs 11) 36) (t - 1)) 36) t).length), .ref a2, .int n2, .ref a3, .ref a4, .int n3])), (a1, .inl (gI g, 200, .inl md_117))] := hD
            have e : z_M_addName xs t = (z_M_addOwn (z_M_one (z_M_addOwn (z_M_one (z_M_addOwn xs 11) 36) (t - 1)) 36) t) := by rw [z_M_addName, if_neg c_1, if_neg c_73, if_neg c_74, if_pos c_110, if_neg c_115]
            exact ret_v hx hb hr hlk (hP.sub (ws' := [(h0, .inr (4, [.ref a1, .int (nI (z_M_addOwn (z_M_one (z_M_addOwn (z_M_one (z_M_addOwn xs 11) 36) (t - 1)) 36) t).length), .ref a2, .int n2, .ref a3, .ref a4, .int n3])), (a1, .inl (gI g, 200, .inl md_117))]) [0, 1] rfl) (hD.sub (ws' := [(h0, .inr (4, [.ref a1, .int (nI (z_M_addOwn (z_M_one (z_M_addOwn (z_M_one (z_M_addOwn xs 11) 36) (t - 1)) 36) t).length), .ref a2, .int n2, .ref a3, .ref a4, .int n3])), (a1, .inl (gI g, 200, .inl md_117))]) [0, 1] rfl rfl) hS ⟨md_117, by rw [e], by rw [e]; exact hm_117, by rw [e]; omega, by rw [e]; omega⟩ (by first | exact Nat.le_of_ble_eq_true rfl | (dsimp only; omega) | omega) (by first | exact Nat.le_of_ble_eq_true rfl | (dsimp only; omega) | omega) d_M_addName_86
          · skip
            refine lv_aload_n hx hb d_M_addName_75 rfl (lv_at hl 0 rfl) ?_
            refine lv_bipush (v := 49) hx hb d_M_addName_76 (by decide) ?_
            refine go_v (wr := []) (run_V hF (c_M_one g l _ h0 a1 a2 a3 a4 n2 n3 (z_M_one (z_M_addOwn (z_M_one (z_M_addOwn xs 11) 36) (t - 1)) 36) md_114 hm_114 49 (by omega)) k_M_one j_M_79 se_M_M_one (va_recv hK hP (ci := 4) (q0 := 0) rfl rfl) (cw_down G hP hD hS hA [0, 1] rfl rfl) ⟨Nat.le_of_ble_eq_true rfl, Nat.le_of_ble_eq_true rfl⟩ rfl hl.1 (Nat.le_of_ble_eq_true rfl) d_M_addName_78 ⟨(by first | exact Nat.le_of_ble_eq_true rfl | (dsimp only; omega) | omega), (by first | exact Nat.le_of_ble_eq_true rfl | (dsimp only; omega) | omega)⟩) hP hD hS hA [0, 1] [] rfl rfl rfl (by decide) (fun w1 H locs hp hP hD hS => ?_)
            obtain ⟨md_119, rfl, hm_119, hn_119, hn_119b⟩ := hp
            have hP : va_P (gD g) classes [(h0, .inr (4, [.ref a1, .int (nI (z_M_one (z_M_one (z_M_addOwn (z_M_one (z_M_addOwn xs 11) 36) (t - 1)) 36) 49).length), .ref a2, .int n2, .ref a3, .ref a4, .int n3])), (a1, .inl (gI g, 200, .inl md_119))] H := hP
            have hD : va_D A [(h0, .inr (4, [.ref a1, .int (nI (z_M_one (z_M_one (z_M_addOwn (z_M_one (z_M_addOwn xs 11) 36) (t - 1)) 36) 49).length), .ref a2, .int n2, .ref a3, .ref a4, .int n3])), (a1, .inl (gI g, 200, .inl md_119))] := hD
            refine lv_aload_n hx hb d_M_addName_81 rfl (lv_at hl 0 rfl) ?_
            refine lv_iload_n hx hb d_M_addName_82 rfl (lv_at hl 1 rfl) ?_
            refine go_v (wr := []) (run_V hF (c_M_addOwn g l _ h0 a1 a2 a3 a4 n2 n3 (z_M_one (z_M_one (z_M_addOwn (z_M_one (z_M_addOwn xs 11) 36) (t - 1)) 36) 49) md_119 hm_119 t (by omega)) k_M_addOwn j_M_99 se_M_M_addOwn (va_recv hK hP (ci := 4) (q0 := 0) rfl rfl) (cw_down G hP hD hS hA [0, 1] rfl rfl) ⟨Nat.le_of_ble_eq_true rfl, Nat.le_of_ble_eq_true rfl⟩ rfl hl.1 (Nat.le_of_ble_eq_true rfl) d_M_addName_83 ⟨(by first | exact Nat.le_of_ble_eq_true rfl | (dsimp only; omega) | omega), (by first | exact Nat.le_of_ble_eq_true rfl | (dsimp only; omega) | omega)⟩) hP hD hS hA [0, 1] [] rfl rfl rfl (by decide) (fun w1 H locs hp hP hD hS => ?_)
            obtain ⟨md_121, rfl, hm_121, hn_121, hn_121b⟩ := hp
            have hP : va_P (gD g) classes [(h0, .inr (4, [.ref a1, .int (nI (z_M_addOwn (z_M_one (z_M_one (z_M_addOwn (z_M_one (z_M_addOwn xs 11) 36) (t - 1)) 36) 49) t).length), .ref a2, .int n2, .ref a3, .ref a4, .int n3])), (a1, .inl (gI g, 200, .inl md_121))] H := hP
            have hD : va_D A [(h0, .inr (4, [.ref a1, .int (nI (z_M_addOwn (z_M_one (z_M_one (z_M_addOwn (z_M_one (z_M_addOwn xs 11) 36) (t - 1)) 36) 49) t).length), .ref a2, .int n2, .ref a3, .ref a4, .int n3])), (a1, .inl (gI g, 200, .inl md_121))] := hD
            have e : z_M_addName xs t = (z_M_addOwn (z_M_one (z_M_one (z_M_addOwn (z_M_one (z_M_addOwn xs 11) 36) (t - 1)) 36) 49) t) := by rw [z_M_addName, if_neg c_1, if_neg c_73, if_neg c_74, if_pos c_110, if_pos c_115]
            exact ret_v hx hb hr hlk (hP.sub (ws' := [(h0, .inr (4, [.ref a1, .int (nI (z_M_addOwn (z_M_one (z_M_one (z_M_addOwn (z_M_one (z_M_addOwn xs 11) 36) (t - 1)) 36) 49) t).length), .ref a2, .int n2, .ref a3, .ref a4, .int n3])), (a1, .inl (gI g, 200, .inl md_121))]) [0, 1] rfl) (hD.sub (ws' := [(h0, .inr (4, [.ref a1, .int (nI (z_M_addOwn (z_M_one (z_M_one (z_M_addOwn (z_M_one (z_M_addOwn xs 11) 36) (t - 1)) 36) 49) t).length), .ref a2, .int n2, .ref a3, .ref a4, .int n3])), (a1, .inl (gI g, 200, .inl md_121))]) [0, 1] rfl rfl) hS ⟨md_121, by rw [e], by rw [e]; exact hm_121, by rw [e]; omega, by rw [e]; omega⟩ (by first | exact Nat.le_of_ble_eq_true rfl | (dsimp only; omega) | omega) (by first | exact Nat.le_of_ble_eq_true rfl | (dsimp only; omega) | omega) d_M_addName_86
        · skip
          refine lv_iload_n hx hb d_M_addName_50 rfl (lv_at hl 1 rfl) ?_
          refine lv_bipush (v := 19) hx hb d_M_addName_51 (by decide) ?_
          refine lv_icmp_ne (tgt := 69) hx hb d_M_addName_53 (by decide) (fun c_122 => ?_) (fun c_122 => ?_)
          · skip
            refine lv_iload_n hx hb d_M_addName_69 rfl (lv_at hl 1 rfl) ?_
            refine lv_bipush (v := 23) hx hb d_M_addName_70 (by decide) ?_
            refine lv_icmp_ne (tgt := 81) hx hb d_M_addName_72 (by decide) (fun c_123 => ?_) (fun c_123 => ?_)
            · skip
              refine lv_aload_n hx hb d_M_addName_81 rfl (lv_at hl 0 rfl) ?_
              refine lv_iload_n hx hb d_M_addName_82 rfl (lv_at hl 1 rfl) ?_
              refine go_v (wr := []) (run_V hF (c_M_addOwn g l _ h0 a1 a2 a3 a4 n2 n3 (z_M_one (z_M_addOwn xs 11) 36) md_109 hm_109 t (by omega)) k_M_addOwn j_M_99 se_M_M_addOwn (va_recv hK hP (ci := 4) (q0 := 0) rfl rfl) (cw_down G hP hD hS hA [0, 1] rfl rfl) ⟨Nat.le_of_ble_eq_true rfl, Nat.le_of_ble_eq_true rfl⟩ rfl hl.1 (Nat.le_of_ble_eq_true rfl) d_M_addName_83 ⟨(by first | exact Nat.le_of_ble_eq_true rfl | (dsimp only; omega) | omega), (by first | exact Nat.le_of_ble_eq_true rfl | (dsimp only; omega) | omega)⟩) hP hD hS hA [0, 1] [] rfl rfl rfl (by decide) (fun w1 H locs hp hP hD hS => ?_)
              obtain ⟨md_125, rfl, hm_125, hn_125, hn_125b⟩ := hp
              have hP : va_P (gD g) classes [(h0, .inr (4, [.ref a1, .int (nI (z_M_addOwn (z_M_one (z_M_addOwn xs 11) 36) t).length), .ref a2, .int n2, .ref a3, .ref a4, .int n3])), (a1, .inl (gI g, 200, .inl md_125))] H := hP
              have hD : va_D A [(h0, .inr (4, [.ref a1, .int (nI (z_M_addOwn (z_M_one (z_M_addOwn xs 11) 36) t).length), .ref a2, .int n2, .ref a3, .ref a4, .int n3])), (a1, .inl (gI g, 200, .inl md_125))] := hD
              have e : z_M_addName xs t = (z_M_addOwn (z_M_one (z_M_addOwn xs 11) 36) t) := by rw [z_M_addName, if_neg c_1, if_neg c_73, if_neg c_74, if_neg c_110, if_neg c_122, if_neg c_123]
              exact ret_v hx hb hr hlk (hP.sub (ws' := [(h0, .inr (4, [.ref a1, .int (nI (z_M_addOwn (z_M_one (z_M_addOwn xs 11) 36) t).length), .ref a2, .int n2, .ref a3, .ref a4, .int n3])), (a1, .inl (gI g, 200, .inl md_125))]) [0, 1] rfl) (hD.sub (ws' := [(h0, .inr (4, [.ref a1, .int (nI (z_M_addOwn (z_M_one (z_M_addOwn xs 11) 36) t).length), .ref a2, .int n2, .ref a3, .ref a4, .int n3])), (a1, .inl (gI g, 200, .inl md_125))]) [0, 1] rfl rfl) hS ⟨md_125, by rw [e], by rw [e]; exact hm_125, by rw [e]; omega, by rw [e]; omega⟩ (by first | exact Nat.le_of_ble_eq_true rfl | (dsimp only; omega) | omega) (by first | exact Nat.le_of_ble_eq_true rfl | (dsimp only; omega) | omega) d_M_addName_86
            · skip
              refine lv_aload_n hx hb d_M_addName_75 rfl (lv_at hl 0 rfl) ?_
              refine lv_bipush (v := 49) hx hb d_M_addName_76 (by decide) ?_
              refine go_v (wr := []) (run_V hF (c_M_one g l _ h0 a1 a2 a3 a4 n2 n3 (z_M_one (z_M_addOwn xs 11) 36) md_109 hm_109 49 (by omega)) k_M_one j_M_79 se_M_M_one (va_recv hK hP (ci := 4) (q0 := 0) rfl rfl) (cw_down G hP hD hS hA [0, 1] rfl rfl) ⟨Nat.le_of_ble_eq_true rfl, Nat.le_of_ble_eq_true rfl⟩ rfl hl.1 (Nat.le_of_ble_eq_true rfl) d_M_addName_78 ⟨(by first | exact Nat.le_of_ble_eq_true rfl | (dsimp only; omega) | omega), (by first | exact Nat.le_of_ble_eq_true rfl | (dsimp only; omega) | omega)⟩) hP hD hS hA [0, 1] [] rfl rfl rfl (by decide) (fun w1 H locs hp hP hD hS => ?_)
              obtain ⟨md_127, rfl, hm_127, hn_127, hn_127b⟩ := hp
              have hP : va_P (gD g) classes [(h0, .inr (4, [.ref a1, .int (nI (z_M_one (z_M_one (z_M_addOwn xs 11) 36) 49).length), .ref a2, .int n2, .ref a3, .ref a4, .int n3])), (a1, .inl (gI g, 200, .inl md_127))] H := hP
              have hD : va_D A [(h0, .inr (4, [.ref a1, .int (nI (z_M_one (z_M_one (z_M_addOwn xs 11) 36) 49).length), .ref a2, .int n2, .ref a3, .ref a4, .int n3])), (a1, .inl (gI g, 200, .inl md_127))] := hD
              refine lv_aload_n hx hb d_M_addName_81 rfl (lv_at hl 0 rfl) ?_
              refine lv_iload_n hx hb d_M_addName_82 rfl (lv_at hl 1 rfl) ?_
              refine go_v (wr := []) (run_V hF (c_M_addOwn g l _ h0 a1 a2 a3 a4 n2 n3 (z_M_one (z_M_one (z_M_addOwn xs 11) 36) 49) md_127 hm_127 t (by omega)) k_M_addOwn j_M_99 se_M_M_addOwn (va_recv hK hP (ci := 4) (q0 := 0) rfl rfl) (cw_down G hP hD hS hA [0, 1] rfl rfl) ⟨Nat.le_of_ble_eq_true rfl, Nat.le_of_ble_eq_true rfl⟩ rfl hl.1 (Nat.le_of_ble_eq_true rfl) d_M_addName_83 ⟨(by first | exact Nat.le_of_ble_eq_true rfl | (dsimp only; omega) | omega), (by first | exact Nat.le_of_ble_eq_true rfl | (dsimp only; omega) | omega)⟩) hP hD hS hA [0, 1] [] rfl rfl rfl (by decide) (fun w1 H locs hp hP hD hS => ?_)
              obtain ⟨md_129, rfl, hm_129, hn_129, hn_129b⟩ := hp
              have hP : va_P (gD g) classes [(h0, .inr (4, [.ref a1, .int (nI (z_M_addOwn (z_M_one (z_M_one (z_M_addOwn xs 11) 36) 49) t).length), .ref a2, .int n2, .ref a3, .ref a4, .int n3])), (a1, .inl (gI g, 200, .inl md_129))] H := hP
              have hD : va_D A [(h0, .inr (4, [.ref a1, .int (nI (z_M_addOwn (z_M_one (z_M_one (z_M_addOwn xs 11) 36) 49) t).length), .ref a2, .int n2, .ref a3, .ref a4, .int n3])), (a1, .inl (gI g, 200, .inl md_129))] := hD
              have e : z_M_addName xs t = (z_M_addOwn (z_M_one (z_M_one (z_M_addOwn xs 11) 36) 49) t) := by rw [z_M_addName, if_neg c_1, if_neg c_73, if_neg c_74, if_neg c_110, if_neg c_122, if_pos c_123]
              exact ret_v hx hb hr hlk (hP.sub (ws' := [(h0, .inr (4, [.ref a1, .int (nI (z_M_addOwn (z_M_one (z_M_one (z_M_addOwn xs 11) 36) 49) t).length), .ref a2, .int n2, .ref a3, .ref a4, .int n3])), (a1, .inl (gI g, 200, .inl md_129))]) [0, 1] rfl) (hD.sub (ws' := [(h0, .inr (4, [.ref a1, .int (nI (z_M_addOwn (z_M_one (z_M_one (z_M_addOwn xs 11) 36) 49) t).length), .ref a2, .int n2, .ref a3, .ref a4, .int n3])), (a1, .inl (gI g, 200, .inl md_129))]) [0, 1] rfl rfl) hS ⟨md_129, by rw [e], by rw [e]; exact hm_129, by rw [e]; omega, by rw [e]; omega⟩ (by first | exact Nat.le_of_ble_eq_true rfl | (dsimp only; omega) | omega) (by first | exact Nat.le_of_ble_eq_true rfl | (dsimp only; omega) | omega) d_M_addName_86
          · skip
            refine lv_aload_n hx hb d_M_addName_56 rfl (lv_at hl 0 rfl) ?_
            refine lv_iload_n hx hb d_M_addName_57 rfl (lv_at hl 1 rfl) ?_
            refine lv_iconst (v := 1) hx hb d_M_addName_58 (by decide) ?_
            refine lv_isub hx hb d_M_addName_59 ?_
            refine go_v (wr := []) (run_V hF (c_M_addOwn g l _ h0 a1 a2 a3 a4 n2 n3 (z_M_one (z_M_addOwn xs 11) 36) md_109 hm_109 (t - 1) (by omega)) k_M_addOwn j_M_99 se_M_M_addOwn (va_recv hK hP (ci := 4) (q0 := 0) rfl rfl) (cw_down G hP hD hS hA [0, 1] rfl rfl) ⟨Nat.le_of_ble_eq_true rfl, Nat.le_of_ble_eq_true rfl⟩ rfl hl.1 (Nat.le_of_ble_eq_true rfl) d_M_addName_60 ⟨(by first | exact Nat.le_of_ble_eq_true rfl | (dsimp only; omega) | omega), (by first | exact Nat.le_of_ble_eq_true rfl | (dsimp only; omega) | omega)⟩) hP hD hS hA [0, 1] [] rfl rfl rfl (by decide) (fun w1 H locs hp hP hD hS => ?_)
            obtain ⟨md_131, rfl, hm_131, hn_131, hn_131b⟩ := hp
            have hP : va_P (gD g) classes [(h0, .inr (4, [.ref a1, .int (nI (z_M_addOwn (z_M_one (z_M_addOwn xs 11) 36) (t - 1)).length), .ref a2, .int n2, .ref a3, .ref a4, .int n3])), (a1, .inl (gI g, 200, .inl md_131))] H := hP
            have hD : va_D A [(h0, .inr (4, [.ref a1, .int (nI (z_M_addOwn (z_M_one (z_M_addOwn xs 11) 36) (t - 1)).length), .ref a2, .int n2, .ref a3, .ref a4, .int n3])), (a1, .inl (gI g, 200, .inl md_131))] := hD
            refine lv_aload_n hx hb d_M_addName_63 rfl (lv_at hl 0 rfl) ?_
            refine lv_bipush (v := 36) hx hb d_M_addName_64 (by decide) ?_
            refine go_v (wr := []) (run_V hF (c_M_one g l _ h0 a1 a2 a3 a4 n2 n3 (z_M_addOwn (z_M_one (z_M_addOwn xs 11) 36) (t - 1)) md_131 hm_131 36 (by omega)) k_M_one j_M_79 se_M_M_one (va_recv hK hP (ci := 4) (q0 := 0) rfl rfl) (cw_down G hP hD hS hA [0, 1] rfl rfl) ⟨Nat.le_of_ble_eq_true rfl, Nat.le_of_ble_eq_true rfl⟩ rfl hl.1 (Nat.le_of_ble_eq_true rfl) d_M_addName_66 ⟨(by first | exact Nat.le_of_ble_eq_true rfl | (dsimp only; omega) | omega), (by first | exact Nat.le_of_ble_eq_true rfl | (dsimp only; omega) | omega)⟩) hP hD hS hA [0, 1] [] rfl rfl rfl (by decide) (fun w1 H locs hp hP hD hS => ?_)
            obtain ⟨md_133, rfl, hm_133, hn_133, hn_133b⟩ := hp
            have hP : va_P (gD g) classes [(h0, .inr (4, [.ref a1, .int (nI (z_M_one (z_M_addOwn (z_M_one (z_M_addOwn xs 11) 36) (t - 1)) 36).length), .ref a2, .int n2, .ref a3, .ref a4, .int n3])), (a1, .inl (gI g, 200, .inl md_133))] H := hP
            have hD : va_D A [(h0, .inr (4, [.ref a1, .int (nI (z_M_one (z_M_addOwn (z_M_one (z_M_addOwn xs 11) 36) (t - 1)) 36).length), .ref a2, .int n2, .ref a3, .ref a4, .int n3])), (a1, .inl (gI g, 200, .inl md_133))] := hD
            refine lv_iload_n hx hb d_M_addName_69 rfl (lv_at hl 1 rfl) ?_
            refine lv_bipush (v := 23) hx hb d_M_addName_70 (by decide) ?_
            refine lv_icmp_ne (tgt := 81) hx hb d_M_addName_72 (by decide) (fun c_134 => ?_) (fun c_134 => ?_)
            · skip
              refine lv_aload_n hx hb d_M_addName_81 rfl (lv_at hl 0 rfl) ?_
              refine lv_iload_n hx hb d_M_addName_82 rfl (lv_at hl 1 rfl) ?_
              refine go_v (wr := []) (run_V hF (c_M_addOwn g l _ h0 a1 a2 a3 a4 n2 n3 (z_M_one (z_M_addOwn (z_M_one (z_M_addOwn xs 11) 36) (t - 1)) 36) md_133 hm_133 t (by omega)) k_M_addOwn j_M_99 se_M_M_addOwn (va_recv hK hP (ci := 4) (q0 := 0) rfl rfl) (cw_down G hP hD hS hA [0, 1] rfl rfl) ⟨Nat.le_of_ble_eq_true rfl, Nat.le_of_ble_eq_true rfl⟩ rfl hl.1 (Nat.le_of_ble_eq_true rfl) d_M_addName_83 ⟨(by first | exact Nat.le_of_ble_eq_true rfl | (dsimp only; omega) | omega), (by first | exact Nat.le_of_ble_eq_true rfl | (dsimp only; omega) | omega)⟩) hP hD hS hA [0, 1] [] rfl rfl rfl (by decide) (fun w1 H locs hp hP hD hS => ?_)
              obtain ⟨md_136, rfl, hm_136, hn_136, hn_136b⟩ := hp
              have hP : va_P (gD g) classes [(h0, .inr (4, [.ref a1, .int (nI (z_M_addOwn (z_M_one (z_M_addOwn (z_M_one (z_M_addOwn xs 11) 36) (t - 1)) 36) t).length), .ref a2, .int n2, .ref a3, .ref a4, .int n3])), (a1, .inl (gI g, 200, .inl md_136))] H := hP
              have hD : va_D A [(h0, .inr (4, [.ref a1, .int (nI (z_M_addOwn (z_M_one (z_M_addOwn (z_M_one (z_M_addOwn xs 11) 36) (t - 1)) 36) t).length), .ref a2, .int n2, .ref a3, .ref a4, .int n3])), (a1, .inl (gI g, 200, .inl md_136))] := hD
              have e : z_M_addName xs t = (z_M_addOwn (z_M_one (z_M_addOwn (z_M_one (z_M_addOwn xs 11) 36) (t - 1)) 36) t) := by rw [z_M_addName, if_neg c_1, if_neg c_73, if_neg c_74, if_neg c_110, if_pos c_122, if_neg c_134]
              exact ret_v hx hb hr hlk (hP.sub (ws' := [(h0, .inr (4, [.ref a1, .int (nI (z_M_addOwn (z_M_one (z_M_addOwn (z_M_one (z_M_addOwn xs 11) 36) (t - 1)) 36) t).length), .ref a2, .int n2, .ref a3, .ref a4, .int n3])), (a1, .inl (gI g, 200, .inl md_136))]) [0, 1] rfl) (hD.sub (ws' := [(h0, .inr (4, [.ref a1, .int (nI (z_M_addOwn (z_M_one (z_M_addOwn (z_M_one (z_M_addOwn xs 11) 36) (t - 1)) 36) t).length), .ref a2, .int n2, .ref a3, .ref a4, .int n3])), (a1, .inl (gI g, 200, .inl md_136))]) [0, 1] rfl rfl) hS ⟨md_136, by rw [e], by rw [e]; exact hm_136, by rw [e]; omega, by rw [e]; omega⟩ (by first | exact Nat.le_of_ble_eq_true rfl | (dsimp only; omega) | omega) (by first | exact Nat.le_of_ble_eq_true rfl | (dsimp only; omega) | omega) d_M_addName_86
            · skip
              refine lv_aload_n hx hb d_M_addName_75 rfl (lv_at hl 0 rfl) ?_
              refine lv_bipush (v := 49) hx hb d_M_addName_76 (by decide) ?_
              refine go_v (wr := []) (run_V hF (c_M_one g l _ h0 a1 a2 a3 a4 n2 n3 (z_M_one (z_M_addOwn (z_M_one (z_M_addOwn xs 11) 36) (t - 1)) 36) md_133 hm_133 49 (by omega)) k_M_one j_M_79 se_M_M_one (va_recv hK hP (ci := 4) (q0 := 0) rfl rfl) (cw_down G hP hD hS hA [0, 1] rfl rfl) ⟨Nat.le_of_ble_eq_true rfl, Nat.le_of_ble_eq_true rfl⟩ rfl hl.1 (Nat.le_of_ble_eq_true rfl) d_M_addName_78 ⟨(by first | exact Nat.le_of_ble_eq_true rfl | (dsimp only; omega) | omega), (by first | exact Nat.le_of_ble_eq_true rfl | (dsimp only; omega) | omega)⟩) hP hD hS hA [0, 1] [] rfl rfl rfl (by decide) (fun w1 H locs hp hP hD hS => ?_)
              obtain ⟨md_138, rfl, hm_138, hn_138, hn_138b⟩ := hp
              have hP : va_P (gD g) classes [(h0, .inr (4, [.ref a1, .int (nI (z_M_one (z_M_one (z_M_addOwn (z_M_one (z_M_addOwn xs 11) 36) (t - 1)) 36) 49).length), .ref a2, .int n2, .ref a3, .ref a4, .int n3])), (a1, .inl (gI g, 200, .inl md_138))] H := hP
              have hD : va_D A [(h0, .inr (4, [.ref a1, .int (nI (z_M_one (z_M_one (z_M_addOwn (z_M_one (z_M_addOwn xs 11) 36) (t - 1)) 36) 49).length), .ref a2, .int n2, .ref a3, .ref a4, .int n3])), (a1, .inl (gI g, 200, .inl md_138))] := hD
              refine lv_aload_n hx hb d_M_addName_81 rfl (lv_at hl 0 rfl) ?_
              refine lv_iload_n hx hb d_M_addName_82 rfl (lv_at hl 1 rfl) ?_
              refine go_v (wr := []) (run_V hF (c_M_addOwn g l _ h0 a1 a2 a3 a4 n2 n3 (z_M_one (z_M_one (z_M_addOwn (z_M_one (z_M_addOwn xs 11) 36) (t - 1)) 36) 49) md_138 hm_138 t (by omega)) k_M_addOwn j_M_99 se_M_M_addOwn (va_recv hK hP (ci := 4) (q0 := 0) rfl rfl) (cw_down G hP hD hS hA [0, 1] rfl rfl) ⟨Nat.le_of_ble_eq_true rfl, Nat.le_of_ble_eq_true rfl⟩ rfl hl.1 (Nat.le_of_ble_eq_true rfl) d_M_addName_83 ⟨(by first | exact Nat.le_of_ble_eq_true rfl | (dsimp only; omega) | omega), (by first | exact Nat.le_of_ble_eq_true rfl | (dsimp only; omega) | omega)⟩) hP hD hS hA [0, 1] [] rfl rfl rfl (by decide) (fun w1 H locs hp hP hD hS => ?_)
              obtain ⟨md_140, rfl, hm_140, hn_140, hn_140b⟩ := hp
              have hP : va_P (gD g) classes [(h0, .inr (4, [.ref a1, .int (nI (z_M_addOwn (z_M_one (z_M_one (z_M_addOwn (z_M_one (z_M_addOwn xs 11) 36) (t - 1)) 36) 49) t).length), .ref a2, .int n2, .ref a3, .ref a4, .int n3])), (a1, .inl (gI g, 200, .inl md_140))] H := hP
              have hD : va_D A [(h0, .inr (4, [.ref a1, .int (nI (z_M_addOwn (z_M_one (z_M_one (z_M_addOwn (z_M_one (z_M_addOwn xs 11) 36) (t - 1)) 36) 49) t).length), .ref a2, .int n2, .ref a3, .ref a4, .int n3])), (a1, .inl (gI g, 200, .inl md_140))] := hD
              have e : z_M_addName xs t = (z_M_addOwn (z_M_one (z_M_one (z_M_addOwn (z_M_one (z_M_addOwn xs 11) 36) (t - 1)) 36) 49) t) := by rw [z_M_addName, if_neg c_1, if_neg c_73, if_neg c_74, if_neg c_110, if_pos c_122, if_pos c_134]
              exact ret_v hx hb hr hlk (hP.sub (ws' := [(h0, .inr (4, [.ref a1, .int (nI (z_M_addOwn (z_M_one (z_M_one (z_M_addOwn (z_M_one (z_M_addOwn xs 11) 36) (t - 1)) 36) 49) t).length), .ref a2, .int n2, .ref a3, .ref a4, .int n3])), (a1, .inl (gI g, 200, .inl md_140))]) [0, 1] rfl) (hD.sub (ws' := [(h0, .inr (4, [.ref a1, .int (nI (z_M_addOwn (z_M_one (z_M_one (z_M_addOwn (z_M_one (z_M_addOwn xs 11) 36) (t - 1)) 36) 49) t).length), .ref a2, .int n2, .ref a3, .ref a4, .int n3])), (a1, .inl (gI g, 200, .inl md_140))]) [0, 1] rfl rfl) hS ⟨md_140, by rw [e], by rw [e]; exact hm_140, by rw [e]; omega, by rw [e]; omega⟩ (by first | exact Nat.le_of_ble_eq_true rfl | (dsimp only; omega) | omega) (by first | exact Nat.le_of_ble_eq_true rfl | (dsimp only; omega) | omega) d_M_addName_86
    · skip
      refine lv_aload_n hx hb d_M_addName_12 rfl (lv_at hl 0 rfl) ?_
      refine lv_ldc2 (v := 456901681454) hx hb hF.2.2.2.1 (hF.2.2.2.2 _ cl_M_95) d_M_addName_13 ?_
      refine go_v (wr := []) (run_V hF (c_M_add g l _ h0 a1 a2 a3 a4 n2 n3 xs md hm 456901681454 (by omega)) k_M_add j_M_85 se_M_M_add (va_recv hK hP (ci := 4) (q0 := 0) rfl rfl) (cw_down G hP hD hS hA [0, 1] rfl rfl) ⟨Nat.le_of_ble_eq_true rfl, Nat.le_of_ble_eq_true rfl⟩ rfl hl.1 (Nat.le_of_ble_eq_true rfl) d_M_addName_16 ⟨(by first | exact Nat.le_of_ble_eq_true rfl | (dsimp only; omega) | omega), (by first | exact Nat.le_of_ble_eq_true rfl | (dsimp only; omega) | omega)⟩) hP hD hS hA [0, 1] [] rfl rfl rfl (by decide) (fun w1 H locs hp hP hD hS => ?_)
      obtain ⟨md_142, rfl, hm_142, hn_142, hn_142b⟩ := hp
      have hP : va_P (gD g) classes [(h0, .inr (4, [.ref a1, .int (nI (z_M_add xs 456901681454).length), .ref a2, .int n2, .ref a3, .ref a4, .int n3])), (a1, .inl (gI g, 200, .inl md_142))] H := hP
      have hD : va_D A [(h0, .inr (4, [.ref a1, .int (nI (z_M_add xs 456901681454).length), .ref a2, .int n2, .ref a3, .ref a4, .int n3])), (a1, .inl (gI g, 200, .inl md_142))] := hD
      refine lv_aload_n hx hb d_M_addName_19 rfl (lv_at hl 0 rfl) ?_
      refine lv_ldc2 (v := 465491093294) hx hb hF.2.2.2.1 (hF.2.2.2.2 _ cl_M_97) d_M_addName_20 ?_
      refine go_v (wr := []) (run_V hF (c_M_add g l _ h0 a1 a2 a3 a4 n2 n3 (z_M_add xs 456901681454) md_142 hm_142 465491093294 (by omega)) k_M_add j_M_85 se_M_M_add (va_recv hK hP (ci := 4) (q0 := 0) rfl rfl) (cw_down G hP hD hS hA [0, 1] rfl rfl) ⟨Nat.le_of_ble_eq_true rfl, Nat.le_of_ble_eq_true rfl⟩ rfl hl.1 (Nat.le_of_ble_eq_true rfl) d_M_addName_23 ⟨(by first | exact Nat.le_of_ble_eq_true rfl | (dsimp only; omega) | omega), (by first | exact Nat.le_of_ble_eq_true rfl | (dsimp only; omega) | omega)⟩) hP hD hS hA [0, 1] [] rfl rfl rfl (by decide) (fun w1 H locs hp hP hD hS => ?_)
      obtain ⟨md_144, rfl, hm_144, hn_144, hn_144b⟩ := hp
      have hP : va_P (gD g) classes [(h0, .inr (4, [.ref a1, .int (nI (z_M_add (z_M_add xs 456901681454) 465491093294).length), .ref a2, .int n2, .ref a3, .ref a4, .int n3])), (a1, .inl (gI g, 200, .inl md_144))] H := hP
      have hD : va_D A [(h0, .inr (4, [.ref a1, .int (nI (z_M_add (z_M_add xs 456901681454) 465491093294).length), .ref a2, .int n2, .ref a3, .ref a4, .int n3])), (a1, .inl (gI g, 200, .inl md_144))] := hD
      refine lv_iload_n hx hb d_M_addName_26 rfl (lv_at hl 1 rfl) ?_
      refine lv_bipush (v := 11) hx hb d_M_addName_27 (by decide) ?_
      refine lv_icmp_le (tgt := 44) hx hb d_M_addName_29 (by decide) (fun c_145 => ?_) (fun c_145 => ?_)
      · skip
        refine lv_iload_n hx hb d_M_addName_44 rfl (lv_at hl 1 rfl) ?_
        refine lv_bipush (v := 17) hx hb d_M_addName_45 (by decide) ?_
        refine lv_icmp_eq (tgt := 56) hx hb d_M_addName_47 (by decide) (fun c_146 => ?_) (fun c_146 => ?_)
        · skip
          refine lv_aload_n hx hb d_M_addName_56 rfl (lv_at hl 0 rfl) ?_
          refine lv_iload_n hx hb d_M_addName_57 rfl (lv_at hl 1 rfl) ?_
          refine lv_iconst (v := 1) hx hb d_M_addName_58 (by decide) ?_
          refine lv_isub hx hb d_M_addName_59 ?_
          refine go_v (wr := []) (run_V hF (c_M_addOwn g l _ h0 a1 a2 a3 a4 n2 n3 (z_M_add (z_M_add xs 456901681454) 465491093294) md_144 hm_144 (t - 1) (by omega)) k_M_addOwn j_M_99 se_M_M_addOwn (va_recv hK hP (ci := 4) (q0 := 0) rfl rfl) (cw_down G hP hD hS hA [0, 1] rfl rfl) ⟨Nat.le_of_ble_eq_true rfl, Nat.le_of_ble_eq_true rfl⟩ rfl hl.1 (Nat.le_of_ble_eq_true rfl) d_M_addName_60 ⟨(by first | exact Nat.le_of_ble_eq_true rfl | (dsimp only; omega) | omega), (by first | exact Nat.le_of_ble_eq_true rfl | (dsimp only; omega) | omega)⟩) hP hD hS hA [0, 1] [] rfl rfl rfl (by decide) (fun w1 H locs hp hP hD hS => ?_)
          obtain ⟨md_148, rfl, hm_148, hn_148, hn_148b⟩ := hp
          have hP : va_P (gD g) classes [(h0, .inr (4, [.ref a1, .int (nI (z_M_addOwn (z_M_add (z_M_add xs 456901681454) 465491093294) (t - 1)).length), .ref a2, .int n2, .ref a3, .ref a4, .int n3])), (a1, .inl (gI g, 200, .inl md_148))] H := hP
          have hD : va_D A [(h0, .inr (4, [.ref a1, .int (nI (z_M_addOwn (z_M_add (z_M_add xs 456901681454) 465491093294) (t - 1)).length), .ref a2, .int n2, .ref a3, .ref a4, .int n3])), (a1, .inl (gI g, 200, .inl md_148))] := hD
          refine lv_aload_n hx hb d_M_addName_63 rfl (lv_at hl 0 rfl) ?_
          refine lv_bipush (v := 36) hx hb d_M_addName_64 (by decide) ?_
          refine go_v (wr := []) (run_V hF (c_M_one g l _ h0 a1 a2 a3 a4 n2 n3 (z_M_addOwn (z_M_add (z_M_add xs 456901681454) 465491093294) (t - 1)) md_148 hm_148 36 (by omega)) k_M_one j_M_79 se_M_M_one (va_recv hK hP (ci := 4) (q0 := 0) rfl rfl) (cw_down G hP hD hS hA [0, 1] rfl rfl) ⟨Nat.le_of_ble_eq_true rfl, Nat.le_of_ble_eq_true rfl⟩ rfl hl.1 (Nat.le_of_ble_eq_true rfl) d_M_addName_66 ⟨(by first | exact Nat.le_of_ble_eq_true rfl | (dsimp only; omega) | omega), (by first | exact Nat.le_of_ble_eq_true rfl | (dsimp only; omega) | omega)⟩) hP hD hS hA [0, 1] [] rfl rfl rfl (by decide) (fun w1 H locs hp hP hD hS => ?_)
          obtain ⟨md_150, rfl, hm_150, hn_150, hn_150b⟩ := hp
          have hP : va_P (gD g) classes [(h0, .inr (4, [.ref a1, .int (nI (z_M_one (z_M_addOwn (z_M_add (z_M_add xs 456901681454) 465491093294) (t - 1)) 36).length), .ref a2, .int n2, .ref a3, .ref a4, .int n3])), (a1, .inl (gI g, 200, .inl md_150))] H := hP
          have hD : va_D A [(h0, .inr (4, [.ref a1, .int (nI (z_M_one (z_M_addOwn (z_M_add (z_M_add xs 456901681454) 465491093294) (t - 1)) 36).length), .ref a2, .int n2, .ref a3, .ref a4, .int n3])), (a1, .inl (gI g, 200, .inl md_150))] := hD
          refine lv_iload_n hx hb d_M_addName_69 rfl (lv_at hl 1 rfl) ?_
          refine lv_bipush (v := 23) hx hb d_M_addName_70 (by decide) ?_
          refine lv_icmp_ne (tgt := 81) hx hb d_M_addName_72 (by decide) (fun c_151 => ?_) (fun c_151 => ?_)
          · skip
            refine lv_aload_n hx hb d_M_addName_81 rfl (lv_at hl 0 rfl) ?_
            refine lv_iload_n hx hb d_M_addName_82 rfl (lv_at hl 1 rfl) ?_
            refine go_v (wr := []) (run_V hF (c_M_addOwn g l _ h0 a1 a2 a3 a4 n2 n3 (z_M_one (z_M_addOwn (z_M_add (z_M_add xs 456901681454) 465491093294) (t - 1)) 36) md_150 hm_150 t (by omega)) k_M_addOwn j_M_99 se_M_M_addOwn (va_recv hK hP (ci := 4) (q0 := 0) rfl rfl) (cw_down G hP hD hS hA [0, 1] rfl rfl) ⟨Nat.le_of_ble_eq_true rfl, Nat.le_of_ble_eq_true rfl⟩ rfl hl.1 (Nat.le_of_ble_eq_true rfl) d_M_addName_83 ⟨(by first | exact Nat.le_of_ble_eq_true rfl | (dsimp only; omega) | omega), (by first | exact Nat.le_of_ble_eq_true rfl | (dsimp only; omega) | omega)⟩) hP hD hS hA [0, 1] [] rfl rfl rfl (by decide) (fun w1 H locs hp hP hD hS => ?_)
            obtain ⟨md_153, rfl, hm_153, hn_153, hn_153b⟩ := hp
            have hP : va_P (gD g) classes [(h0, .inr (4, [.ref a1, .int (nI (z_M_addOwn (z_M_one (z_M_addOwn (z_M_add (z_M_add xs 456901681454) 465491093294) (t - 1)) 36) t).length), .ref a2, .int n2, .ref a3, .ref a4, .int n3])), (a1, .inl (gI g, 200, .inl md_153))] H := hP
            have hD : va_D A [(h0, .inr (4, [.ref a1, .int (nI (z_M_addOwn (z_M_one (z_M_addOwn (z_M_add (z_M_add xs 456901681454) 465491093294) (t - 1)) 36) t).length), .ref a2, .int n2, .ref a3, .ref a4, .int n3])), (a1, .inl (gI g, 200, .inl md_153))] := hD
            have e : z_M_addName xs t = (z_M_addOwn (z_M_one (z_M_addOwn (z_M_add (z_M_add xs 456901681454) 465491093294) (t - 1)) 36) t) := by rw [z_M_addName, if_neg c_1, if_pos c_73, if_pos c_145, if_pos c_146, if_neg c_151]
            exact ret_v hx hb hr hlk (hP.sub (ws' := [(h0, .inr (4, [.ref a1, .int (nI (z_M_addOwn (z_M_one (z_M_addOwn (z_M_add (z_M_add xs 456901681454) 465491093294) (t - 1)) 36) t).length), .ref a2, .int n2, .ref a3, .ref a4, .int n3])), (a1, .inl (gI g, 200, .inl md_153))]) [0, 1] rfl) (hD.sub (ws' := [(h0, .inr (4, [.ref a1, .int (nI (z_M_addOwn (z_M_one (z_M_addOwn (z_M_add (z_M_add xs 456901681454) 465491093294) (t - 1)) 36) t).length), .ref a2, .int n2, .ref a3, .ref a4, .int n3])), (a1, .inl (gI g, 200, .inl md_153))]) [0, 1] rfl rfl) hS ⟨md_153, by rw [e], by rw [e]; exact hm_153, by rw [e]; omega, by rw [e]; omega⟩ (by first | exact Nat.le_of_ble_eq_true rfl | (dsimp only; omega) | omega) (by first | exact Nat.le_of_ble_eq_true rfl | (dsimp only; omega) | omega) d_M_addName_86
          · skip
            refine lv_aload_n hx hb d_M_addName_75 rfl (lv_at hl 0 rfl) ?_
            refine lv_bipush (v := 49) hx hb d_M_addName_76 (by decide) ?_
            refine go_v (wr := []) (run_V hF (c_M_one g l _ h0 a1 a2 a3 a4 n2 n3 (z_M_one (z_M_addOwn (z_M_add (z_M_add xs 456901681454) 465491093294) (t - 1)) 36) md_150 hm_150 49 (by omega)) k_M_one j_M_79 se_M_M_one (va_recv hK hP (ci := 4) (q0 := 0) rfl rfl) (cw_down G hP hD hS hA [0, 1] rfl rfl) ⟨Nat.le_of_ble_eq_true rfl, Nat.le_of_ble_eq_true rfl⟩ rfl hl.1 (Nat.le_of_ble_eq_true rfl) d_M_addName_78 ⟨(by first | exact Nat.le_of_ble_eq_true rfl | (dsimp only; omega) | omega), (by first | exact Nat.le_of_ble_eq_true rfl | (dsimp only; omega) | omega)⟩) hP hD hS hA [0, 1] [] rfl rfl rfl (by decide) (fun w1 H locs hp hP hD hS => ?_)
            obtain ⟨md_155, rfl, hm_155, hn_155, hn_155b⟩ := hp
            have hP : va_P (gD g) classes [(h0, .inr (4, [.ref a1, .int (nI (z_M_one (z_M_one (z_M_addOwn (z_M_add (z_M_add xs 456901681454) 465491093294) (t - 1)) 36) 49).length), .ref a2, .int n2, .ref a3, .ref a4, .int n3])), (a1, .inl (gI g, 200, .inl md_155))] H := hP
            have hD : va_D A [(h0, .inr (4, [.ref a1, .int (nI (z_M_one (z_M_one (z_M_addOwn (z_M_add (z_M_add xs 456901681454) 465491093294) (t - 1)) 36) 49).length), .ref a2, .int n2, .ref a3, .ref a4, .int n3])), (a1, .inl (gI g, 200, .inl md_155))] := hD
            refine lv_aload_n hx hb d_M_addName_81 rfl (lv_at hl 0 rfl) ?_
            refine lv_iload_n hx hb d_M_addName_82 rfl (lv_at hl 1 rfl) ?_
            refine go_v (wr := []) (run_V hF (c_M_addOwn g l _ h0 a1 a2 a3 a4 n2 n3 (z_M_one (z_M_one (z_M_addOwn (z_M_add (z_M_add xs 456901681454) 465491093294) (t - 1)) 36) 49) md_155 hm_155 t (by omega)) k_M_addOwn j_M_99 se_M_M_addOwn (va_recv hK hP (ci := 4) (q0 := 0) rfl rfl) (cw_down G hP hD hS hA [0, 1] rfl rfl) ⟨Nat.le_of_ble_eq_true rfl, Nat.le_of_ble_eq_true rfl⟩ rfl hl.1 (Nat.le_of_ble_eq_true rfl) d_M_addName_83 ⟨(by first | exact Nat.le_of_ble_eq_true rfl | (dsimp only; omega) | omega), (by first | exact Nat.le_of_ble_eq_true rfl | (dsimp only; omega) | omega)⟩) hP hD hS hA [0, 1] [] rfl rfl rfl (by decide) (fun w1 H locs hp hP hD hS => ?_)
            obtain ⟨md_157, rfl, hm_157, hn_157, hn_157b⟩ := hp
            have hP : va_P (gD g) classes [(h0, .inr (4, [.ref a1, .int (nI (z_M_addOwn (z_M_one (z_M_one (z_M_addOwn (z_M_add (z_M_add xs 456901681454) 465491093294) (t - 1)) 36) 49) t).length), .ref a2, .int n2, .ref a3, .ref a4, .int n3])), (a1, .inl (gI g, 200, .inl md_157))] H := hP
            have hD : va_D A [(h0, .inr (4, [.ref a1, .int (nI (z_M_addOwn (z_M_one (z_M_one (z_M_addOwn (z_M_add (z_M_add xs 456901681454) 465491093294) (t - 1)) 36) 49) t).length), .ref a2, .int n2, .ref a3, .ref a4, .int n3])), (a1, .inl (gI g, 200, .inl md_157))] := hD
            have e : z_M_addName xs t = (z_M_addOwn (z_M_one (z_M_one (z_M_addOwn (z_M_add (z_M_add xs 456901681454) 465491093294) (t - 1)) 36) 49) t) := by rw [z_M_addName, if_neg c_1, if_pos c_73, if_pos c_145, if_pos c_146, if_pos c_151]
            exact ret_v hx hb hr hlk (hP.sub (ws' := [(h0, .inr (4, [.ref a1, .int (nI (z_M_addOwn (z_M_one (z_M_one (z_M_addOwn (z_M_add (z_M_add xs 456901681454) 465491093294) (t - 1)) 36) 49) t).length), .ref a2, .int n2, .ref a3, .ref a4, .int n3])), (a1, .inl (gI g, 200, .inl md_157))]) [0, 1] rfl) (hD.sub (ws' := [(h0, .inr (4, [.ref a1, .int (nI (z_M_addOwn (z_M_one (z_M_one (z_M_addOwn (z_M_add (z_M_add xs 456901681454) 465491093294) (t - 1)) 36) 49) t).length), .ref a2, .int n2, .ref a3, .ref a4, .int n3])), (a1, .inl (gI g, 200, .inl md_157))]) [0, 1] rfl rfl) hS ⟨md_157, by rw [e], by rw [e]; exact hm_157, by rw [e]; omega, by rw [e]; omega⟩ (by first | exact Nat.le_of_ble_eq_true rfl | (dsimp only; omega) | omega) (by first | exact Nat.le_of_ble_eq_true rfl | (dsimp only; omega) | omega) d_M_addName_86
        · skip
          refine lv_iload_n hx hb d_M_addName_50 rfl (lv_at hl 1 rfl) ?_
          refine lv_bipush (v := 19) hx hb d_M_addName_51 (by decide) ?_
          refine lv_icmp_ne (tgt := 69) hx hb d_M_addName_53 (by decide) (fun c_158 => ?_) (fun c_158 => ?_)
          · skip
            refine lv_iload_n hx hb d_M_addName_69 rfl (lv_at hl 1 rfl) ?_
            refine lv_bipush (v := 23) hx hb d_M_addName_70 (by decide) ?_
            refine lv_icmp_ne (tgt := 81) hx hb d_M_addName_72 (by decide) (fun c_159 => ?_) (fun c_159 => ?_)
            · skip
              refine lv_aload_n hx hb d_M_addName_81 rfl (lv_at hl 0 rfl) ?_
              refine lv_iload_n hx hb d_M_addName_82 rfl (lv_at hl 1 rfl) ?_
              refine go_v (wr := []) (run_V hF (c_M_addOwn g l _ h0 a1 a2 a3 a4 n2 n3 (z_M_add (z_M_add xs 456901681454) 465491093294) md_144 hm_144 t (by omega)) k_M_addOwn j_M_99 se_M_M_addOwn (va_recv hK hP (ci := 4) (q0 := 0) rfl rfl) (cw_down G hP hD hS hA [0, 1] rfl rfl) ⟨Nat.le_of_ble_eq_true rfl, Nat.le_of_ble_eq_true rfl⟩ rfl hl.1 (Nat.le_of_ble_eq_true rfl) d_M_addName_83 ⟨(by first | exact Nat.le_of_ble_eq_true rfl | (dsimp only; omega) | omega), (by first | exact Nat.le_of_ble_eq_true rfl | (dsimp only; omega) | omega)⟩) hP hD hS hA [0, 1] [] rfl rfl rfl (by decide) (fun w1 H locs hp hP hD hS => ?_)
              obtain ⟨md_161, rfl, hm_161, hn_161, hn_161b⟩ := hp
              have hP : va_P (gD g) classes [(h0, .inr (4, [.ref a1, .int (nI (z_M_addOwn (z_M_add (z_M_add xs 456901681454) 465491093294) t).length), .ref a2, .int n2, .ref a3, .ref a4, .int n3])), (a1, .inl (gI g, 200, .inl md_161))] H := hP
              have hD : va_D A [(h0, .inr (4, [.ref a1, .int (nI (z_M_addOwn (z_M_add (z_M_add xs 456901681454) 465491093294) t).length), .ref a2, .int n2, .ref a3, .ref a4, .int n3])), (a1, .inl (gI g, 200, .inl md_161))] := hD
              have e : z_M_addName xs t = (z_M_addOwn (z_M_add (z_M_add xs 456901681454) 465491093294) t) := by rw [z_M_addName, if_neg c_1, if_pos c_73, if_pos c_145, if_neg c_146, if_neg c_158, if_neg c_159]
              exact ret_v hx hb hr hlk (hP.sub (ws' := [(h0, .inr (4, [.ref a1, .int (nI (z_M_addOwn (z_M_add (z_M_add xs 456901681454) 465491093294) t).length), .ref a2, .int n2, .ref a3, .ref a4, .int n3])), (a1, .inl (gI g, 200, .inl md_161))]) [0, 1] rfl) (hD.sub (ws' := [(h0, .inr (4, [.ref a1, .int (nI (z_M_addOwn (z_M_add (z_M_add xs 456901681454) 465491093294) t).length), .ref a2, .int n2, .ref a3, .ref a4, .int n3])), (a1, .inl (gI g, 200, .inl md_161))]) [0, 1] rfl rfl) hS ⟨md_161, by rw [e], by rw [e]; exact hm_161, by rw [e]; omega, by rw [e]; omega⟩ (by first | exact Nat.le_of_ble_eq_true rfl | (dsimp only; omega) | omega) (by first | exact Nat.le_of_ble_eq_true rfl | (dsimp only; omega) | omega) d_M_addName_86
            · skip
              refine lv_aload_n hx hb d_M_addName_75 rfl (lv_at hl 0 rfl) ?_
              refine lv_bipush (v := 49) hx hb d_M_addName_76 (by decide) ?_
              refine go_v (wr := []) (run_V hF (c_M_one g l _ h0 a1 a2 a3 a4 n2 n3 (z_M_add (z_M_add xs 456901681454) 465491093294) md_144 hm_144 49 (by omega)) k_M_one j_M_79 se_M_M_one (va_recv hK hP (ci := 4) (q0 := 0) rfl rfl) (cw_down G hP hD hS hA [0, 1] rfl rfl) ⟨Nat.le_of_ble_eq_true rfl, Nat.le_of_ble_eq_true rfl⟩ rfl hl.1 (Nat.le_of_ble_eq_true rfl) d_M_addName_78 ⟨(by first | exact Nat.le_of_ble_eq_true rfl | (dsimp only; omega) | omega), (by first | exact Nat.le_of_ble_eq_true rfl | (dsimp only; omega) | omega)⟩) hP hD hS hA [0, 1] [] rfl rfl rfl (by decide) (fun w1 H locs hp hP hD hS => ?_)
              obtain ⟨md_163, rfl, hm_163, hn_163, hn_163b⟩ := hp
              have hP : va_P (gD g) classes [(h0, .inr (4, [.ref a1, .int (nI (z_M_one (z_M_add (z_M_add xs 456901681454) 465491093294) 49).length), .ref a2, .int n2, .ref a3, .ref a4, .int n3])), (a1, .inl (gI g, 200, .inl md_163))] H := hP
              have hD : va_D A [(h0, .inr (4, [.ref a1, .int (nI (z_M_one (z_M_add (z_M_add xs 456901681454) 465491093294) 49).length), .ref a2, .int n2, .ref a3, .ref a4, .int n3])), (a1, .inl (gI g, 200, .inl md_163))] := hD
              refine lv_aload_n hx hb d_M_addName_81 rfl (lv_at hl 0 rfl) ?_
              refine lv_iload_n hx hb d_M_addName_82 rfl (lv_at hl 1 rfl) ?_
              refine go_v (wr := []) (run_V hF (c_M_addOwn g l _ h0 a1 a2 a3 a4 n2 n3 (z_M_one (z_M_add (z_M_add xs 456901681454) 465491093294) 49) md_163 hm_163 t (by omega)) k_M_addOwn j_M_99 se_M_M_addOwn (va_recv hK hP (ci := 4) (q0 := 0) rfl rfl) (cw_down G hP hD hS hA [0, 1] rfl rfl) ⟨Nat.le_of_ble_eq_true rfl, Nat.le_of_ble_eq_true rfl⟩ rfl hl.1 (Nat.le_of_ble_eq_true rfl) d_M_addName_83 ⟨(by first | exact Nat.le_of_ble_eq_true rfl | (dsimp only; omega) | omega), (by first | exact Nat.le_of_ble_eq_true rfl | (dsimp only; omega) | omega)⟩) hP hD hS hA [0, 1] [] rfl rfl rfl (by decide) (fun w1 H locs hp hP hD hS => ?_)
              obtain ⟨md_165, rfl, hm_165, hn_165, hn_165b⟩ := hp
              have hP : va_P (gD g) classes [(h0, .inr (4, [.ref a1, .int (nI (z_M_addOwn (z_M_one (z_M_add (z_M_add xs 456901681454) 465491093294) 49) t).length), .ref a2, .int n2, .ref a3, .ref a4, .int n3])), (a1, .inl (gI g, 200, .inl md_165))] H := hP
              have hD : va_D A [(h0, .inr (4, [.ref a1, .int (nI (z_M_addOwn (z_M_one (z_M_add (z_M_add xs 456901681454) 465491093294) 49) t).length), .ref a2, .int n2, .ref a3, .ref a4, .int n3])), (a1, .inl (gI g, 200, .inl md_165))] := hD
              have e : z_M_addName xs t = (z_M_addOwn (z_M_one (z_M_add (z_M_add xs 456901681454) 465491093294) 49) t) := by rw [z_M_addName, if_neg c_1, if_pos c_73, if_pos c_145, if_neg c_146, if_neg c_158, if_pos c_159]
              exact ret_v hx hb hr hlk (hP.sub (ws' := [(h0, .inr (4, [.ref a1, .int (nI (z_M_addOwn (z_M_one (z_M_add (z_M_add xs 456901681454) 465491093294) 49) t).length), .ref a2, .int n2, .ref a3, .ref a4, .int n3])), (a1, .inl (gI g, 200, .inl md_165))]) [0, 1] rfl) (hD.sub (ws' := [(h0, .inr (4, [.ref a1, .int (nI (z_M_addOwn (z_M_one (z_M_add (z_M_add xs 456901681454) 465491093294) 49) t).length), .ref a2, .int n2, .ref a3, .ref a4, .int n3])), (a1, .inl (gI g, 200, .inl md_165))]) [0, 1] rfl rfl) hS ⟨md_165, by rw [e], by rw [e]; exact hm_165, by rw [e]; omega, by rw [e]; omega⟩ (by first | exact Nat.le_of_ble_eq_true rfl | (dsimp only; omega) | omega) (by first | exact Nat.le_of_ble_eq_true rfl | (dsimp only; omega) | omega) d_M_addName_86
          · skip
            refine lv_aload_n hx hb d_M_addName_56 rfl (lv_at hl 0 rfl) ?_
            refine lv_iload_n hx hb d_M_addName_57 rfl (lv_at hl 1 rfl) ?_
            refine lv_iconst (v := 1) hx hb d_M_addName_58 (by decide) ?_
            refine lv_isub hx hb d_M_addName_59 ?_
            refine go_v (wr := []) (run_V hF (c_M_addOwn g l _ h0 a1 a2 a3 a4 n2 n3 (z_M_add (z_M_add xs 456901681454) 465491093294) md_144 hm_144 (t - 1) (by omega)) k_M_addOwn j_M_99 se_M_M_addOwn (va_recv hK hP (ci := 4) (q0 := 0) rfl rfl) (cw_down G hP hD hS hA [0, 1] rfl rfl) ⟨Nat.le_of_ble_eq_true rfl, Nat.le_of_ble_eq_true rfl⟩ rfl hl.1 (Nat.le_of_ble_eq_true rfl) d_M_addName_60 ⟨(by first | exact Nat.le_of_ble_eq_true rfl | (dsimp only; omega) | omega), (by first | exact Nat.le_of_ble_eq_true rfl | (dsimp only; omega) | omega)⟩) hP hD hS hA [0, 1] [] rfl rfl rfl (by decide) (fun w1 H locs hp hP hD hS => ?_)
            obtain ⟨md_167, rfl, hm_167, hn_167, hn_167b⟩ := hp
            have hP : va_P (gD g) classes [(h0, .inr (4, [.ref a1, .int (nI (z_M_addOwn (z_M_add (z_M_add xs 456901681454) 465491093294) (t - 1)).length), .ref a2, .int n2, .ref a3, .ref a4, .int n3])), (a1, .inl (gI g, 200, .inl md_167))] H := hP
            have hD : va_D A [(h0, .inr (4, [.ref a1, .int (nI (z_M_addOwn (z_M_add (z_M_add xs 456901681454) 465491093294) (t - 1)).length), .ref a2, .int n2, .ref a3, .ref a4, .int n3])), (a1, .inl (gI g, 200, .inl md_167))] := hD
            refine lv_aload_n hx hb d_M_addName_63 rfl (lv_at hl 0 rfl) ?_
            refine lv_bipush (v := 36) hx hb d_M_addName_64 (by decide) ?_
            refine go_v (wr := []) (run_V hF (c_M_one g l _ h0 a1 a2 a3 a4 n2 n3 (z_M_addOwn (z_M_add (z_M_add xs 456901681454) 465491093294) (t - 1)) md_167 hm_167 36 (by omega)) k_M_one j_M_79 se_M_M_one (va_recv hK hP (ci := 4) (q0 := 0) rfl rfl) (cw_down G hP hD hS hA [0, 1] rfl rfl) ⟨Nat.le_of_ble_eq_true rfl, Nat.le_of_ble_eq_true rfl⟩ rfl hl.1 (Nat.le_of_ble_eq_true rfl) d_M_addName_66 ⟨(by first | exact Nat.le_of_ble_eq_true rfl | (dsimp only; omega) | omega), (by first | exact Nat.le_of_ble_eq_true rfl | (dsimp only; omega) | omega)⟩) hP hD hS hA [0, 1] [] rfl rfl rfl (by decide) (fun w1 H locs hp hP hD hS => ?_)
            obtain ⟨md_169, rfl, hm_169, hn_169, hn_169b⟩ := hp
            have hP : va_P (gD g) classes [(h0, .inr (4, [.ref a1, .int (nI (z_M_one (z_M_addOwn (z_M_add (z_M_add xs 456901681454) 465491093294) (t - 1)) 36).length), .ref a2, .int n2, .ref a3, .ref a4, .int n3])), (a1, .inl (gI g, 200, .inl md_169))] H := hP
            have hD : va_D A [(h0, .inr (4, [.ref a1, .int (nI (z_M_one (z_M_addOwn (z_M_add (z_M_add xs 456901681454) 465491093294) (t - 1)) 36).length), .ref a2, .int n2, .ref a3, .ref a4, .int n3])), (a1, .inl (gI g, 200, .inl md_169))] := hD
            refine lv_iload_n hx hb d_M_addName_69 rfl (lv_at hl 1 rfl) ?_
            refine lv_bipush (v := 23) hx hb d_M_addName_70 (by decide) ?_
            refine lv_icmp_ne (tgt := 81) hx hb d_M_addName_72 (by decide) (fun c_170 => ?_) (fun c_170 => ?_)
            · skip
              refine lv_aload_n hx hb d_M_addName_81 rfl (lv_at hl 0 rfl) ?_
              refine lv_iload_n hx hb d_M_addName_82 rfl (lv_at hl 1 rfl) ?_
              refine go_v (wr := []) (run_V hF (c_M_addOwn g l _ h0 a1 a2 a3 a4 n2 n3 (z_M_one (z_M_addOwn (z_M_add (z_M_add xs 456901681454) 465491093294) (t - 1)) 36) md_169 hm_169 t (by omega)) k_M_addOwn j_M_99 se_M_M_addOwn (va_recv hK hP (ci := 4) (q0 := 0) rfl rfl) (cw_down G hP hD hS hA [0, 1] rfl rfl) ⟨Nat.le_of_ble_eq_true rfl, Nat.le_of_ble_eq_true rfl⟩ rfl hl.1 (Nat.le_of_ble_eq_true rfl) d_M_addName_83 ⟨(by first | exact Nat.le_of_ble_eq_true rfl | (dsimp only; omega) | omega), (by first | exact Nat.le_of_ble_eq_true rfl | (dsimp only; omega) | omega)⟩) hP hD hS hA [0, 1] [] rfl rfl rfl (by decide) (fun w1 H locs hp hP hD hS => ?_)
              obtain ⟨md_172, rfl, hm_172, hn_172, hn_172b⟩ := hp
              have hP : va_P (gD g) classes [(h0, .inr (4, [.ref a1, .int (nI (z_M_addOwn (z_M_one (z_M_addOwn (z_M_add (z_M_add xs 456901681454) 465491093294) (t - 1)) 36) t).length), .ref a2, .int n2, .ref a3, .ref a4, .int n3])), (a1, .inl (gI g, 200, .inl md_172))] H := hP
              have hD : va_D A [(h0, .inr (4, [.ref a1, .int (nI (z_M_addOwn (z_M_one (z_M_addOwn (z_M_add (z_M_add xs 456901681454) 465491093294) (t - 1)) 36) t).length), .ref a2, .int n2, .ref a3, .ref a4, .int n3])), (a1, .inl (gI g, 200, .inl md_172))] := hD
              have e : z_M_addName xs t = (z_M_addOwn (z_M_one (z_M_addOwn (z_M_add (z_M_add xs 456901681454) 465491093294) (t - 1)) 36) t) := by rw [z_M_addName, if_neg c_1, if_pos c_73, if_pos c_145, if_neg c_146, if_pos c_158, if_neg c_170]
              exact ret_v hx hb hr hlk (hP.sub (ws' := [(h0, .inr (4, [.ref a1, .int (nI (z_M_addOwn (z_M_one (z_M_addOwn (z_M_add (z_M_add xs 456901681454) 465491093294) (t - 1)) 36) t).length), .ref a2, .int n2, .ref a3, .ref a4, .int n3])), (a1, .inl (gI g, 200, .inl md_172))]) [0, 1] rfl) (hD.sub (ws' := [(h0, .inr (4, [.ref a1, .int (nI (z_M_addOwn (z_M_one (z_M_addOwn (z_M_add (z_M_add xs 456901681454) 465491093294) (t - 1)) 36) t).length), .ref a2, .int n2, .ref a3, .ref a4, .int n3])), (a1, .inl (gI g, 200, .inl md_172))]) [0, 1] rfl rfl) hS ⟨md_172, by rw [e], by rw [e]; exact hm_172, by rw [e]; omega, by rw [e]; omega⟩ (by first | exact Nat.le_of_ble_eq_true rfl | (dsimp only; omega) | omega) (by first | exact Nat.le_of_ble_eq_true rfl | (dsimp only; omega) | omega) d_M_addName_86
            · skip
              refine lv_aload_n hx hb d_M_addName_75 rfl (lv_at hl 0 rfl) ?_
              refine lv_bipush (v := 49) hx hb d_M_addName_76 (by decide) ?_
              refine go_v (wr := []) (run_V hF (c_M_one g l _ h0 a1 a2 a3 a4 n2 n3 (z_M_one (z_M_addOwn (z_M_add (z_M_add xs 456901681454) 465491093294) (t - 1)) 36) md_169 hm_169 49 (by omega)) k_M_one j_M_79 se_M_M_one (va_recv hK hP (ci := 4) (q0 := 0) rfl rfl) (cw_down G hP hD hS hA [0, 1] rfl rfl) ⟨Nat.le_of_ble_eq_true rfl, Nat.le_of_ble_eq_true rfl⟩ rfl hl.1 (Nat.le_of_ble_eq_true rfl) d_M_addName_78 ⟨(by first | exact Nat.le_of_ble_eq_true rfl | (dsimp only; omega) | omega), (by first | exact Nat.le_of_ble_eq_true rfl | (dsimp only; omega) | omega)⟩) hP hD hS hA [0, 1] [] rfl rfl rfl (by decide) (fun w1 H locs hp hP hD hS => ?_)
              obtain ⟨md_174, rfl, hm_174, hn_174, hn_174b⟩ := hp
              have hP : va_P (gD g) classes [(h0, .inr (4, [.ref a1, .int (nI (z_M_one (z_M_one (z_M_addOwn (z_M_add (z_M_add xs 456901681454) 465491093294) (t - 1)) 36) 49).length), .ref a2, .int n2, .ref a3, .ref a4, .int n3])), (a1, .inl (gI g, 200, .inl md_174))] H := hP
              have hD : va_D A [(h0, .inr (4, [.ref a1, .int (nI (z_M_one (z_M_one (z_M_addOwn (z_M_add (z_M_add xs 456901681454) 465491093294) (t - 1)) 36) 49).length), .ref a2, .int n2, .ref a3, .ref a4, .int n3])), (a1, .inl (gI g, 200, .inl md_174))] := hD
              refine lv_aload_n hx hb d_M_addName_81 rfl (lv_at hl 0 rfl) ?_
              refine lv_iload_n hx hb d_M_addName_82 rfl (lv_at hl 1 rfl) ?_
              refine go_v (wr := []) (run_V hF (c_M_addOwn g l _ h0 a1 a2 a3 a4 n2 n3 (z_M_one (z_M_one (z_M_addOwn (z_M_add (z_M_add xs 456901681454) 465491093294) (t - 1)) 36) 49) md_174 hm_174 t (by omega)) k_M_addOwn j_M_99 se_M_M_addOwn (va_recv hK hP (ci := 4) (q0 := 0) rfl rfl) (cw_down G hP hD hS hA [0, 1] rfl rfl) ⟨Nat.le_of_ble_eq_true rfl, Nat.le_of_ble_eq_true rfl⟩ rfl hl.1 (Nat.le_of_ble_eq_true rfl) d_M_addName_83 ⟨(by first | exact Nat.le_of_ble_eq_true rfl | (dsimp only; omega) | omega), (by first | exact Nat.le_of_ble_eq_true rfl | (dsimp only; omega) | omega)⟩) hP hD hS hA [0, 1] [] rfl rfl rfl (by decide) (fun w1 H locs hp hP hD hS => ?_)
              obtain ⟨md_176, rfl, hm_176, hn_176, hn_176b⟩ := hp
              have hP : va_P (gD g) classes [(h0, .inr (4, [.ref a1, .int (nI (z_M_addOwn (z_M_one (z_M_one (z_M_addOwn (z_M_add (z_M_add xs 456901681454) 465491093294) (t - 1)) 36) 49) t).length), .ref a2, .int n2, .ref a3, .ref a4, .int n3])), (a1, .inl (gI g, 200, .inl md_176))] H := hP
              have hD : va_D A [(h0, .inr (4, [.ref a1, .int (nI (z_M_addOwn (z_M_one (z_M_one (z_M_addOwn (z_M_add (z_M_add xs 456901681454) 465491093294) (t - 1)) 36) 49) t).length), .ref a2, .int n2, .ref a3, .ref a4, .int n3])), (a1, .inl (gI g, 200, .inl md_176))] := hD
              have e : z_M_addName xs t = (z_M_addOwn (z_M_one (z_M_one (z_M_addOwn (z_M_add (z_M_add xs 456901681454) 465491093294) (t - 1)) 36) 49) t) := by rw [z_M_addName, if_neg c_1, if_pos c_73, if_pos c_145, if_neg c_146, if_pos c_158, if_pos c_170]
              exact ret_v hx hb hr hlk (hP.sub (ws' := [(h0, .inr (4, [.ref a1, .int (nI (z_M_addOwn (z_M_one (z_M_one (z_M_addOwn (z_M_add (z_M_add xs 456901681454) 465491093294) (t - 1)) 36) 49) t).length), .ref a2, .int n2, .ref a3, .ref a4, .int n3])), (a1, .inl (gI g, 200, .inl md_176))]) [0, 1] rfl) (hD.sub (ws' := [(h0, .inr (4, [.ref a1, .int (nI (z_M_addOwn (z_M_one (z_M_one (z_M_addOwn (z_M_add (z_M_add xs 456901681454) 465491093294) (t - 1)) 36) 49) t).length), .ref a2, .int n2, .ref a3, .ref a4, .int n3])), (a1, .inl (gI g, 200, .inl md_176))]) [0, 1] rfl rfl) hS ⟨md_176, by rw [e], by rw [e]; exact hm_176, by rw [e]; omega, by rw [e]; omega⟩ (by first | exact Nat.le_of_ble_eq_true rfl | (dsimp only; omega) | omega) (by first | exact Nat.le_of_ble_eq_true rfl | (dsimp only; omega) | omega) d_M_addName_86
      · skip
        refine lv_aload_n hx hb d_M_addName_32 rfl (lv_at hl 0 rfl) ?_
        refine lv_bipush (v := 11) hx hb d_M_addName_33 (by decide) ?_
        refine go_v (wr := []) (run_V hF (c_M_addOwn g l _ h0 a1 a2 a3 a4 n2 n3 (z_M_add (z_M_add xs 456901681454) 465491093294) md_144 hm_144 11 (by omega)) k_M_addOwn j_M_99 se_M_M_addOwn (va_recv hK hP (ci := 4) (q0 := 0) rfl rfl) (cw_down G hP hD hS hA [0, 1] rfl rfl) ⟨Nat.le_of_ble_eq_true rfl, Nat.le_of_ble_eq_true rfl⟩ rfl hl.1 (Nat.le_of_ble_eq_true rfl) d_M_addName_35 ⟨(by first | exact Nat.le_of_ble_eq_true rfl | (dsimp only; omega) | omega), (by first | exact Nat.le_of_ble_eq_true rfl | (dsimp only; omega) | omega)⟩) hP hD hS hA [0, 1] [] rfl rfl rfl (by decide) (fun w1 H locs hp hP hD hS => ?_)
        obtain ⟨md_178, rfl, hm_178, hn_178, hn_178b⟩ := hp
        have hP : va_P (gD g) classes [(h0, .inr (4, [.ref a1, .int (nI (z_M_addOwn (z_M_add (z_M_add xs 456901681454) 465491093294) 11).length), .ref a2, .int n2, .ref a3, .ref a4, .int n3])), (a1, .inl (gI g, 200, .inl md_178))] H := hP
        have hD : va_D A [(h0, .inr (4, [.ref a1, .int (nI (z_M_addOwn (z_M_add (z_M_add xs 456901681454) 465491093294) 11).length), .ref a2, .int n2, .ref a3, .ref a4, .int n3])), (a1, .inl (gI g, 200, .inl md_178))] := hD
        refine lv_aload_n hx hb d_M_addName_38 rfl (lv_at hl 0 rfl) ?_
        refine lv_bipush (v := 36) hx hb d_M_addName_39 (by decide) ?_
        refine go_v (wr := []) (run_V hF (c_M_one g l _ h0 a1 a2 a3 a4 n2 n3 (z_M_addOwn (z_M_add (z_M_add xs 456901681454) 465491093294) 11) md_178 hm_178 36 (by omega)) k_M_one j_M_79 se_M_M_one (va_recv hK hP (ci := 4) (q0 := 0) rfl rfl) (cw_down G hP hD hS hA [0, 1] rfl rfl) ⟨Nat.le_of_ble_eq_true rfl, Nat.le_of_ble_eq_true rfl⟩ rfl hl.1 (Nat.le_of_ble_eq_true rfl) d_M_addName_41 ⟨(by first | exact Nat.le_of_ble_eq_true rfl | (dsimp only; omega) | omega), (by first | exact Nat.le_of_ble_eq_true rfl | (dsimp only; omega) | omega)⟩) hP hD hS hA [0, 1] [] rfl rfl rfl (by decide) (fun w1 H locs hp hP hD hS => ?_)
        obtain ⟨md_180, rfl, hm_180, hn_180, hn_180b⟩ := hp
        have hP : va_P (gD g) classes [(h0, .inr (4, [.ref a1, .int (nI (z_M_one (z_M_addOwn (z_M_add (z_M_add xs 456901681454) 465491093294) 11) 36).length), .ref a2, .int n2, .ref a3, .ref a4, .int n3])), (a1, .inl (gI g, 200, .inl md_180))] H := hP
        have hD : va_D A [(h0, .inr (4, [.ref a1, .int (nI (z_M_one (z_M_addOwn (z_M_add (z_M_add xs 456901681454) 465491093294) 11) 36).length), .ref a2, .int n2, .ref a3, .ref a4, .int n3])), (a1, .inl (gI g, 200, .inl md_180))] := hD
        refine lv_iload_n hx hb d_M_addName_44 rfl (lv_at hl 1 rfl) ?_
        refine lv_bipush (v := 17) hx hb d_M_addName_45 (by decide) ?_
        refine lv_icmp_eq (tgt := 56) hx hb d_M_addName_47 (by decide) (fun c_181 => ?_) (fun c_181 => ?_)
        · skip
          refine lv_aload_n hx hb d_M_addName_56 rfl (lv_at hl 0 rfl) ?_
          refine lv_iload_n hx hb d_M_addName_57 rfl (lv_at hl 1 rfl) ?_
          refine lv_iconst (v := 1) hx hb d_M_addName_58 (by decide) ?_
          refine lv_isub hx hb d_M_addName_59 ?_
          refine go_v (wr := []) (run_V hF (c_M_addOwn g l _ h0 a1 a2 a3 a4 n2 n3 (z_M_one (z_M_addOwn (z_M_add (z_M_add xs 456901681454) 465491093294) 11) 36) md_180 hm_180 (t - 1) (by omega)) k_M_addOwn j_M_99 se_M_M_addOwn (va_recv hK hP (ci := 4) (q0 := 0) rfl rfl) (cw_down G hP hD hS hA [0, 1] rfl rfl) ⟨Nat.le_of_ble_eq_true rfl, Nat.le_of_ble_eq_true rfl⟩ rfl hl.1 (Nat.le_of_ble_eq_true rfl) d_M_addName_60 ⟨(by first | exact Nat.le_of_ble_eq_true rfl | (dsimp only; omega) | omega), (by first | exact Nat.le_of_ble_eq_true rfl | (dsimp only; omega) | omega)⟩) hP hD hS hA [0, 1] [] rfl rfl rfl (by decide) (fun w1 H locs hp hP hD hS => ?_)
          obtain ⟨md_183, rfl, hm_183, hn_183, hn_183b⟩ := hp
          have hP : va_P (gD g) classes [(h0, .inr (4, [.ref a1, .int (nI (z_M_addOwn (z_M_one (z_M_addOwn (z_M_add (z_M_add xs 456901681454) 465491093294) 11) 36) (t - 1)).length), .ref a2, .int n2, .ref a3, .ref a4, .int n3])), (a1, .inl (gI g, 200, .inl md_183))] H := hP
          have hD : va_D A [(h0, .inr (4, [.ref a1, .int (nI (z_M_addOwn (z_M_one (z_M_addOwn (z_M_add (z_M_add xs 456901681454) 465491093294) 11) 36) (t - 1)).length), .ref a2, .int n2, .ref a3, .ref a4, .int n3])), (a1, .inl (gI g, 200, .inl md_183))] := hD
          refine lv_aload_n hx hb d_M_addName_63 rfl (lv_at hl 0 rfl) ?_
          refine lv_bipush (v := 36) hx hb d_M_addName_64 (by decide) ?_
          refine go_v (wr := []) (run_V hF (c_M_one g l _ h0 a1 a2 a3 a4 n2 n3 (z_M_addOwn (z_M_one (z_M_addOwn (z_M_add (z_M_add xs 456901681454) 465491093294) 11) 36) (t - 1)) md_183 hm_183 36 (by omega)) k_M_one j_M_79 se_M_M_one (va_recv hK hP (ci := 4) (q0 := 0) rfl rfl) (cw_down G hP hD hS hA [0, 1] rfl rfl) ⟨Nat.le_of_ble_eq_true rfl, Nat.le_of_ble_eq_true rfl⟩ rfl hl.1 (Nat.le_of_ble_eq_true rfl) d_M_addName_66 ⟨(by first | exact Nat.le_of_ble_eq_true rfl | (dsimp only; omega) | omega), (by first | exact Nat.le_of_ble_eq_true rfl | (dsimp only; omega) | omega)⟩) hP hD hS hA [0, 1] [] rfl rfl rfl (by decide) (fun w1 H locs hp hP hD hS => ?_)
          obtain ⟨md_185, rfl, hm_185, hn_185, hn_185b⟩ := hp
          have hP : va_P (gD g) classes [(h0, .inr (4, [.ref a1, .int (nI (z_M_one (z_M_addOwn (z_M_one (z_M_addOwn (z_M_add (z_M_add xs 456901681454) 465491093294) 11) 36) (t - 1)) 36).length), .ref a2, .int n2, .ref a3, .ref a4, .int n3])), (a1, .inl (gI g, 200, .inl md_185))] H := hP
          have hD : va_D A [(h0, .inr (4, [.ref a1, .int (nI (z_M_one (z_M_addOwn (z_M_one (z_M_addOwn (z_M_add (z_M_add xs 456901681454) 465491093294) 11) 36) (t - 1)) 36).length), .ref a2, .int n2, .ref a3, .ref a4, .int n3])), (a1, .inl (gI g, 200, .inl md_185))] := hD
          refine lv_iload_n hx hb d_M_addName_69 rfl (lv_at hl 1 rfl) ?_
          refine lv_bipush (v := 23) hx hb d_M_addName_70 (by decide) ?_
          refine lv_icmp_ne (tgt := 81) hx hb d_M_addName_72 (by decide) (fun c_186 => ?_) (fun c_186 => ?_)
          · skip
            refine lv_aload_n hx hb d_M_addName_81 rfl (lv_at hl 0 rfl) ?_
            refine lv_iload_n hx hb d_M_addName_82 rfl (lv_at hl 1 rfl) ?_
            refine go_v (wr := []) (run_V hF (c_M_addOwn g l _ h0 a1 a2 a3 a4 n2 n3 (z_M_one (z_M_addOwn (z_M_one (z_M_addOwn (z_M_add (z_M_add xs 456901681454) 465491093294) 11) 36) (t - 1)) 36) md_185 hm_185 t (by omega)) k_M_addOwn j_M_99 se_M_M_addOwn (va_recv hK hP (ci := 4) (q0 := 0) rfl rfl) (cw_down G hP hD hS hA [0, 1] rfl rfl) ⟨Nat.le_of_ble_eq_true rfl, Nat.le_of_ble_eq_true rfl⟩ rfl hl.1 (Nat.le_of_ble_eq_true rfl) d_M_addName_83 ⟨(by first | exact Nat.le_of_ble_eq_true rfl | (dsimp only; omega) | omega), (by first | exact Nat.le_of_ble_eq_true rfl | (dsimp only; omega) | omega)⟩) hP hD hS hA [0, 1] [] rfl rfl rfl (by decide) (fun w1 H locs hp hP hD hS => ?_)
            obtain ⟨md_188, rfl, hm_188, hn_188, hn_188b⟩ := hp
            have hP : va_P (gD g) classes [(h0, .inr (4, [.ref a1, .int (nI (z_M_addOwn (z_M_one (z_M_addOwn (z_M_one (z_M_addOwn (z_M_add (z_M_add xs 456901681454) 465491093294) 11) 36) (t - 1)) 36) t).length), .ref a2, .int n2, .ref a3, .ref a4, .int n3])), (a1, .inl (gI g, 200, .inl md_188))] H := hP
            have hD : va_D A [(h0, .inr (4, [.ref a1, .int (nI (z_M_addOwn (z_M_one (z_M_addOwn (z_M_one (z_M_addOwn (z_M_add (z_M_add xs 456901681454) 465491093294) 11) 36) (t - 1)) 36) t).length), .ref a2, .int n2, .ref a3, .ref a4, .int n3])), (a1, .inl (gI g, 200, .inl md_188))] := hD
            have e : z_M_addName xs t = (z_M_addOwn (z_M_one (z_M_addOwn (z_M_one (z_M_addOwn (z_M_add (z_M_add xs 456901681454) 465491093294) 11) 36) (t - 1)) 36) t) := by rw [z_M_addName, if_neg c_1, if_pos c_73, if_neg c_145, if_pos c_181, if_neg c_186]
            exact ret_v hx hb hr hlk (hP.sub (ws' := [(h0, .inr (4, [.ref a1, .int (nI (z_M_addOwn (z_M_one (z_M_addOwn (z_M_one (z_M_addOwn (z_M_add (z_M_add xs 456901681454) 465491093294) 11) 36) (t - 1)) 36) t).length), .ref a2, .int n2, .ref a3, .ref a4, .int n3])), (a1, .inl (gI g, 200, .inl md_188))]) [0, 1] rfl) (hD.sub (ws' := [(h0, .inr (4, [.ref a1, .int (nI (z_M_addOwn (z_M_one (z_M_addOwn (z_M_one (z_M_addOwn (z_M_add (z_M_add xs 456901681454) 465491093294) 11) 36) (t - 1)) 36) t).length), .ref a2, .int n2, .ref a3, .ref a4, .int n3])), (a1, .inl (gI g, 200, .inl md_188))]) [0, 1] rfl rfl) hS ⟨md_188, by rw [e], by rw [e]; exact hm_188, by rw [e]; omega, by rw [e]; omega⟩ (by first | exact Nat.le_of_ble_eq_true rfl | (dsimp only; omega) | omega) (by first | exact Nat.le_of_ble_eq_true rfl | (dsimp only; omega) | omega) d_M_addName_86
          · skip
            refine lv_aload_n hx hb d_M_addName_75 rfl (lv_at hl 0 rfl) ?_
            refine lv_bipush (v := 49) hx hb d_M_addName_76 (by decide) ?_
            refine go_v (wr := []) (run_V hF (c_M_one g l _ h0 a1 a2 a3 a4 n2 n3 (z_M_one (z_M_addOwn (z_M_one (z_M_addOwn (z_M_add (z_M_add xs 456901681454) 465491093294) 11) 36) (t - 1)) 36) md_185 hm_185 49 (by omega)) k_M_one j_M_79 se_M_M_one (va_recv hK hP (ci := 4) (q0 := 0) rfl rfl) (cw_down G hP hD hS hA [0, 1] rfl rfl) ⟨Nat.le_of_ble_eq_true rfl, Nat.le_of_ble_eq_true rfl⟩ rfl hl.1 (Nat.le_of_ble_eq_true rfl) d_M_addName_78 ⟨(by first | exact Nat.le_of_ble_eq_true rfl | (dsimp only; omega) | omega), (by first | exact Nat.le_of_ble_eq_true rfl | (dsimp only; omega) | omega)⟩) hP hD hS hA [0, 1] [] rfl rfl rfl (by decide) (fun w1 H locs hp hP hD hS => ?_)
            obtain ⟨md_190, rfl, hm_190, hn_190, hn_190b⟩ := hp
            have hP : va_P (gD g) classes [(h0, .inr (4, [.ref a1, .int (nI (z_M_one (z_M_one (z_M_addOwn (z_M_one (z_M_addOwn (z_M_add (z_M_add xs 456901681454) 465491093294) 11) 36) (t - 1)) 36) 49).length), .ref a2, .int n2, .ref a3, .ref a4, .int n3])), (a1, .inl (gI g, 200, .inl md_190))] H := hP
            have hD : va_D A [(h0, .inr (4, [.ref a1, .int (nI (z_M_one (z_M_one (z_M_addOwn (z_M_one (z_M_addOwn (z_M_add (z_M_add xs 456901681454) 465491093294) 11) 36) (t - 1)) 36) 49).length), .ref a2, .int n2, .ref a3, .ref a4, .int n3])), (a1, .inl (gI g, 200, .inl md_190))] := hD
            refine lv_aload_n hx hb d_M_addName_81 rfl (lv_at hl 0 rfl) ?_
            refine lv_iload_n hx hb d_M_addName_82 rfl (lv_at hl 1 rfl) ?_
            refine go_v (wr := []) (run_V hF (c_M_addOwn g l _ h0 a1 a2 a3 a4 n2 n3 (z_M_one (z_M_one (z_M_addOwn (z_M_one (z_M_addOwn (z_M_add (z_M_add xs 456901681454) 465491093294) 11) 36) (t - 1)) 36) 49) md_190 hm_190 t (by omega)) k_M_addOwn j_M_99 se_M_M_addOwn (va_recv hK hP (ci := 4) (q0 := 0) rfl rfl) (cw_down G hP hD hS hA [0, 1] rfl rfl) ⟨Nat.le_of_ble_eq_true rfl, Nat.le_of_ble_eq_true rfl⟩ rfl hl.1 (Nat.le_of_ble_eq_true rfl) d_M_addName_83 ⟨(by first | exact Nat.le_of_ble_eq_true rfl | (dsimp only; omega) | omega), (by first | exact Nat.le_of_ble_eq_true rfl | (dsimp only; omega) | omega)⟩) hP hD hS hA [0, 1] [] rfl rfl rfl (by decide) (fun w1 H locs hp hP hD hS => ?_)
            obtain ⟨md_192, rfl, hm_192, hn_192, hn_192b⟩ := hp
            have hP : va_P (gD g) classes [(h0, .inr (4, [.ref a1, .int (nI (z_M_addOwn (z_M_one (z_M_one (z_M_addOwn (z_M_one (z_M_addOwn (z_M_add (z_M_add xs 456901681454) 465491093294) 11) 36) (t - 1)) 36) 49) t).length), .ref a2, .int n2, .ref a3, .ref a4, .int n3])), (a1, .inl (gI g, 200, .inl md_192))] H := hP
            have hD : va_D A [(h0, .inr (4, [.ref a1, .int (nI (z_M_addOwn (z_M_one (z_M_one (z_M_addOwn (z_M_one (z_M_addOwn (z_M_add (z_M_add xs 456901681454) 465491093294) 11) 36) (t - 1)) 36) 49) t).length), .ref a2, .int n2, .ref a3, .ref a4, .int n3])), (a1, .inl (gI g, 200, .inl md_192))] := hD
            have e : z_M_addName xs t = (z_M_addOwn (z_M_one (z_M_one (z_M_addOwn (z_M_one (z_M_addOwn (z_M_add (z_M_add xs 456901681454) 465491093294) 11) 36) (t - 1)) 36) 49) t) := by rw [z_M_addName, if_neg c_1, if_pos c_73, if_neg c_145, if_pos c_181, if_pos c_186]
            exact ret_v hx hb hr hlk (hP.sub (ws' := [(h0, .inr (4, [.ref a1, .int (nI (z_M_addOwn (z_M_one (z_M_one (z_M_addOwn (z_M_one (z_M_addOwn (z_M_add (z_M_add xs 456901681454) 465491093294) 11) 36) (t - 1)) 36) 49) t).length), .ref a2, .int n2, .ref a3, .ref a4, .int n3])), (a1, .inl (gI g, 200, .inl md_192))]) [0, 1] rfl) (hD.sub (ws' := [(h0, .inr (4, [.ref a1, .int (nI (z_M_addOwn (z_M_one (z_M_one (z_M_addOwn (z_M_one (z_M_addOwn (z_M_add (z_M_add xs 456901681454) 465491093294) 11) 36) (t - 1)) 36) 49) t).length), .ref a2, .int n2, .ref a3, .ref a4, .int n3])), (a1, .inl (gI g, 200, .inl md_192))]) [0, 1] rfl rfl) hS ⟨md_192, by rw [e], by rw [e]; exact hm_192, by rw [e]; omega, by rw [e]; omega⟩ (by first | exact Nat.le_of_ble_eq_true rfl | (dsimp only; omega) | omega) (by first | exact Nat.le_of_ble_eq_true rfl | (dsimp only; omega) | omega) d_M_addName_86
        · skip
          refine lv_iload_n hx hb d_M_addName_50 rfl (lv_at hl 1 rfl) ?_
          refine lv_bipush (v := 19) hx hb d_M_addName_51 (by decide) ?_
          refine lv_icmp_ne (tgt := 69) hx hb d_M_addName_53 (by decide) (fun c_193 => ?_) (fun c_193 => ?_)
          · skip
            refine lv_iload_n hx hb d_M_addName_69 rfl (lv_at hl 1 rfl) ?_
            refine lv_bipush (v := 23) hx hb d_M_addName_70 (by decide) ?_
            refine lv_icmp_ne (tgt := 81) hx hb d_M_addName_72 (by decide) (fun c_194 => ?_) (fun c_194 => ?_)
            · skip
              refine lv_aload_n hx hb d_M_addName_81 rfl (lv_at hl 0 rfl) ?_
              refine lv_iload_n hx hb d_M_addName_82 rfl (lv_at hl 1 rfl) ?_
              refine go_v (wr := []) (run_V hF (c_M_addOwn g l _ h0 a1 a2 a3 a4 n2 n3 (z_M_one (z_M_addOwn (z_M_add (z_M_add xs 456901681454) 465491093294) 11) 36) md_180 hm_180 t (by omega)) k_M_addOwn j_M_99 se_M_M_addOwn (va_recv hK hP (ci := 4) (q0 := 0) rfl rfl) (cw_down G hP hD hS hA [0, 1] rfl rfl) ⟨Nat.le_of_ble_eq_true rfl, Nat.le_of_ble_eq_true rfl⟩ rfl hl.1 (Nat.le_of_ble_eq_true rfl) d_M_addName_83 ⟨(by first | exact Nat.le_of_ble_eq_true rfl | (dsimp only; omega) | omega), (by first | exact Nat.le_of_ble_eq_true rfl | (dsimp only; omega) | omega)⟩) hP hD hS hA [0, 1] [] rfl rfl rfl (by decide) (fun w1 H locs hp hP hD hS => ?_)
              obtain ⟨md_196, rfl, hm_196, hn_196, hn_196b⟩ := hp
              have hP : va_P (gD g) classes [(h0, .inr (4, [.ref a1, .int (nI (z_M_addOwn (z_M_one (z_M_addOwn (z_M_add (z_M_add xs 456901681454) 465491093294) 11) 36) t).length), .ref a2, .int n2, .ref a3, .ref a4, .int n3])), (a1, .inl (gI g, 200, .inl md_196))] H := hP
              have hD : va_D A [(h0, .inr (4, [.ref a1, .int (nI (z_M_addOwn (z_M_one (z_M_addOwn (z_M_add (z_M_add xs 456901681454) 465491093294) 11) 36) t).length), .ref a2, .int n2, .ref a3, .ref a4, .int n3])), (a1, .inl (gI g, 200, .inl md_196))] := hD
              have e : z_M_addName xs t = (z_M_addOwn (z_M_one (z_M_addOwn (z_M_add (z_M_add xs 456901681454) 465491093294) 11) 36) t) := by rw [z_M_addName, if_neg c_1, if_pos c_73, if_neg c_145, if_neg c_181, if_neg c_193, if_neg c_194]
              exact ret_v hx hb hr hlk (hP.sub (ws' := [(h0, .inr (4, [.ref a1, .int (nI (z_M_addOwn (z_M_one (z_M_addOwn (z_M_add (z_M_add xs 456901681454) 465491093294) 11) 36) t).length), .ref a2, .int n2, .ref a3, .ref a4, .int n3])), (a1, .inl (gI g, 200, .inl md_196))]) [0, 1] rfl) (hD.sub (ws' := [(h0, .inr (4, [.ref a1, .int (nI (z_M_addOwn (z_M_one (z_M_addOwn (z_M_add (z_M_add xs 456901681454) 465491093294) 11) 36) t).length), .ref a2, .int n2, .ref a3, .ref a4, .int n3])), (a1, .inl (gI g, 200, .inl md_196))]) [0, 1] rfl rfl) hS ⟨md_196, by rw [e], by rw [e]; exact hm_196, by rw [e]; omega, by rw [e]; omega⟩ (by first | exact Nat.le_of_ble_eq_true rfl | (dsimp only; omega) | omega) (by first | exact Nat.le_of_ble_eq_true rfl | (dsimp only; omega) | omega) d_M_addName_86
            · skip
              refine lv_aload_n hx hb d_M_addName_75 rfl (lv_at hl 0 rfl) ?_
              refine lv_bipush (v := 49) hx hb d_M_addName_76 (by decide) ?_
              refine go_v (wr := []) (run_V hF (c_M_one g l _ h0 a1 a2 a3 a4 n2 n3 (z_M_one (z_M_addOwn (z_M_add (z_M_add xs 456901681454) 465491093294) 11) 36) md_180 hm_180 49 (by omega)) k_M_one j_M_79 se_M_M_one (va_recv hK hP (ci := 4) (q0 := 0) rfl rfl) (cw_down G hP hD hS hA [0, 1] rfl rfl) ⟨Nat.le_of_ble_eq_true rfl, Nat.le_of_ble_eq_true rfl⟩ rfl hl.1 (Nat.le_of_ble_eq_true rfl) d_M_addName_78 ⟨(by first | exact Nat.le_of_ble_eq_true rfl | (dsimp only; omega) | omega), (by first | exact Nat.le_of_ble_eq_true rfl | (dsimp only; omega) | omega)⟩) hP hD hS hA [0, 1] [] rfl rfl rfl (by decide) (fun w1 H locs hp hP hD hS => ?_)
              obtain ⟨md_198, rfl, hm_198, hn_198, hn_198b⟩ := hp
              have hP : va_P (gD g) classes [(h0, .inr (4, [.ref a1, .int (nI (z_M_one (z_M_one (z_M_addOwn (z_M_add (z_M_add xs 456901681454) 465491093294) 11) 36) 49).length), .ref a2, .int n2, .ref a3, .ref a4, .int n3])), (a1, .inl (gI g, 200, .inl md_198))] H := hP
              have hD : va_D A [(h0, .inr (4, [.ref a1, .int (nI (z_M_one (z_M_one (z_M_addOwn (z_M_add (z_M_add xs 456901681454) 465491093294) 11) 36) 49).length), .ref a2, .int n2, .ref a3, .ref a4, .int n3])), (a1, .inl (gI g, 200, .inl md_198))] := hD
              refine lv_aload_n hx hb d_M_addName_81 rfl (lv_at hl 0 rfl) ?_
              refine lv_iload_n hx hb d_M_addName_82 rfl (lv_at hl 1 rfl) ?_
              refine go_v (wr := []) (run_V hF (c_M_addOwn g l _ h0 a1 a2 a3 a4 n2 n3 (z_M_one (z_M_one (z_M_addOwn (z_M_add (z_M_add xs 456901681454) 465491093294) 11) 36) 49) md_198 hm_198 t (by omega)) k_M_addOwn j_M_99 se_M_M_addOwn (va_recv hK hP (ci := 4) (q0 := 0) rfl rfl) (cw_down G hP hD hS hA [0, 1] rfl rfl) ⟨Nat.le_of_ble_eq_true rfl, Nat.le_of_ble_eq_true rfl⟩ rfl hl.1 (Nat.le_of_ble_eq_true rfl) d_M_addName_83 ⟨(by first | exact Nat.le_of_ble_eq_true rfl | (dsimp only; omega) | omega), (by first | exact Nat.le_of_ble_eq_true rfl | (dsimp only; omega) | omega)⟩) hP hD hS hA [0, 1] [] rfl rfl rfl (by decide) (fun w1 H locs hp hP hD hS => ?_)
              obtain ⟨md_200, rfl, hm_200, hn_200, hn_200b⟩ := hp
              have hP : va_P (gD g) classes [(h0, .inr (4, [.ref a1, .int (nI (z_M_addOwn (z_M_one (z_M_one (z_M_addOwn (z_M_add (z_M_add xs 456901681454) 465491093294) 11) 36) 49) t).length), .ref a2, .int n2, .ref a3, .ref a4, .int n3])), (a1, .inl (gI g, 200, .inl md_200))] H := hP
              have hD : va_D A [(h0, .inr (4, [.ref a1, .int (nI (z_M_addOwn (z_M_one (z_M_one (z_M_addOwn (z_M_add (z_M_add xs 456901681454) 465491093294) 11) 36) 49) t).length), .ref a2, .int n2, .ref a3, .ref a4, .int n3])), (a1, .inl (gI g, 200, .inl md_200))] := hD
              have e : z_M_addName xs t = (z_M_addOwn (z_M_one (z_M_one (z_M_addOwn (z_M_add (z_M_add xs 456901681454) 465491093294) 11) 36) 49) t) := by rw [z_M_addName, if_neg c_1, if_pos c_73, if_neg c_145, if_neg c_181, if_neg c_193, if_pos c_194]
              exact ret_v hx hb hr hlk (hP.sub (ws' := [(h0, .inr (4, [.ref a1, .int (nI (z_M_addOwn (z_M_one (z_M_one (z_M_addOwn (z_M_add (z_M_add xs 456901681454) 465491093294) 11) 36) 49) t).length), .ref a2, .int n2, .ref a3, .ref a4, .int n3])), (a1, .inl (gI g, 200, .inl md_200))]) [0, 1] rfl) (hD.sub (ws' := [(h0, .inr (4, [.ref a1, .int (nI (z_M_addOwn (z_M_one (z_M_one (z_M_addOwn (z_M_add (z_M_add xs 456901681454) 465491093294) 11) 36) 49) t).length), .ref a2, .int n2, .ref a3, .ref a4, .int n3])), (a1, .inl (gI g, 200, .inl md_200))]) [0, 1] rfl rfl) hS ⟨md_200, by rw [e], by rw [e]; exact hm_200, by rw [e]; omega, by rw [e]; omega⟩ (by first | exact Nat.le_of_ble_eq_true rfl | (dsimp only; omega) | omega) (by first | exact Nat.le_of_ble_eq_true rfl | (dsimp only; omega) | omega) d_M_addName_86
          · skip
            refine lv_aload_n hx hb d_M_addName_56 rfl (lv_at hl 0 rfl) ?_
            refine lv_iload_n hx hb d_M_addName_57 rfl (lv_at hl 1 rfl) ?_
            refine lv_iconst (v := 1) hx hb d_M_addName_58 (by decide) ?_
            refine lv_isub hx hb d_M_addName_59 ?_
            refine go_v (wr := []) (run_V hF (c_M_addOwn g l _ h0 a1 a2 a3 a4 n2 n3 (z_M_one (z_M_addOwn (z_M_add (z_M_add xs 456901681454) 465491093294) 11) 36) md_180 hm_180 (t - 1) (by omega)) k_M_addOwn j_M_99 se_M_M_addOwn (va_recv hK hP (ci := 4) (q0 := 0) rfl rfl) (cw_down G hP hD hS hA [0, 1] rfl rfl) ⟨Nat.le_of_ble_eq_true rfl, Nat.le_of_ble_eq_true rfl⟩ rfl hl.1 (Nat.le_of_ble_eq_true rfl) d_M_addName_60 ⟨(by first | exact Nat.le_of_ble_eq_true rfl | (dsimp only; omega) | omega), (by first | exact Nat.le_of_ble_eq_true rfl | (dsimp only; omega) | omega)⟩) hP hD hS hA [0, 1] [] rfl rfl rfl (by decide) (fun w1 H locs hp hP hD hS => ?_)
            obtain ⟨md_202, rfl, hm_202, hn_202, hn_202b⟩ := hp
            have hP : va_P (gD g) classes [(h0, .inr (4, [.ref a1, .int (nI (z_M_addOwn (z_M_one (z_M_addOwn (z_M_add (z_M_add xs 456901681454) 465491093294) 11) 36) (t - 1)).length), .ref a2, .int n2, .ref a3, .ref a4, .int n3])), (a1, .inl (gI g, 200, .inl md_202))] H := hP
            have hD : va_D A [(h0, .inr (4, [.ref a1, .int (nI (z_M_addOwn (z_M_one (z_M_addOwn (z_M_add (z_M_add xs 456901681454) 465491093294) 11) 36) (t - 1)).length), .ref a2, .int n2, .ref a3, .ref a4, .int n3])), (a1, .inl (gI g, 200, .inl md_202))] := hD
            refine lv_aload_n hx hb d_M_addName_63 rfl (lv_at hl 0 rfl) ?_
            refine lv_bipush (v := 36) hx hb d_M_addName_64 (by decide) ?_
            refine go_v (wr := []) (run_V hF (c_M_one g l _ h0 a1 a2 a3 a4 n2 n3 (z_M_addOwn (z_M_one (z_M_addOwn (z_M_add (z_M_add xs 456901681454) 465491093294) 11) 36) (t - 1)) md_202 hm_202 36 (by omega)) k_M_one j_M_79 se_M_M_one (va_recv hK hP (ci := 4) (q0 := 0) rfl rfl) (cw_down G hP hD hS hA [0, 1] rfl rfl) ⟨Nat.le_of_ble_eq_true rfl, Nat.le_of_ble_eq_true rfl⟩ rfl hl.1 (Nat.le_of_ble_eq_true rfl) d_M_addName_66 ⟨(by first | exact Nat.le_of_ble_eq_true rfl | (dsimp only; omega) | omega), (by first | exact Nat.le_of_ble_eq_true rfl | (dsimp only; omega) | omega)⟩) hP hD hS hA [0, 1] [] rfl rfl rfl (by decide) (fun w1 H locs hp hP hD hS => ?_)
            obtain ⟨md_204, rfl, hm_204, hn_204, hn_204b⟩ := hp
            have hP : va_P (gD g) classes [(h0, .inr (4, [.ref a1, .int (nI (z_M_one (z_M_addOwn (z_M_one (z_M_addOwn (z_M_add (z_M_add xs 456901681454) 465491093294) 11) 36) (t - 1)) 36).length), .ref a2, .int n2, .ref a3, .ref a4, .int n3])), (a1, .inl (gI g, 200, .inl md_204))] H := hP
            have hD : va_D A [(h0, .inr (4, [.ref a1, .int (nI (z_M_one (z_M_addOwn (z_M_one (z_M_addOwn (z_M_add (z_M_add xs 456901681454) 465491093294) 11) 36) (t - 1)) 36).length), .ref a2, .int n2, .ref a3, .ref a4, .int n3])), (a1, .inl (gI g, 200, .inl md_204))] := hD
            refine lv_iload_n hx hb d_M_addName_69 rfl (lv_at hl 1 rfl) ?_
            refine lv_bipush (v := 23) hx hb d_M_addName_70 (by decide) ?_
            refine lv_icmp_ne (tgt := 81) hx hb d_M_addName_72 (by decide) (fun c_205 => ?_) (fun c_205 => ?_)
            · skip
              refine lv_aload_n hx hb d_M_addName_81 rfl (lv_at hl 0 rfl) ?_
              refine lv_iload_n hx hb d_M_addName_82 rfl (lv_at hl 1 rfl) ?_
              refine go_v (wr := []) (run_V hF (c_M_addOwn g l _ h0 a1 a2 a3 a4 n2 n3 (z_M_one (z_M_addOwn (z_M_one (z_M_addOwn (z_M_add (z_M_add xs 456901681454) 465491093294) 11) 36) (t - 1)) 36) md_204 hm_204 t (by omega)) k_M_addOwn j_M_99 se_M_M_addOwn (va_recv hK hP (ci := 4) (q0 := 0) rfl rfl) (cw_down G hP hD hS hA [0, 1] rfl rfl) ⟨Nat.le_of_ble_eq_true rfl, Nat.le_of_ble_eq_true rfl⟩ rfl hl.1 (Nat.le_of_ble_eq_true rfl) d_M_addName_83 ⟨(by first | exact Nat.le_of_ble_eq_true rfl | (dsimp only; omega) | omega), (by first | exact Nat.le_of_ble_eq_true rfl | (dsimp only; omega) | omega)⟩) hP hD hS hA [0, 1] [] rfl rfl rfl (by decide) (fun w1 H locs hp hP hD hS => ?_)
              obtain ⟨md_207, rfl, hm_207, hn_207, hn_207b⟩ := hp
              have hP : va_P (gD g) classes [(h0, .inr (4, [.ref a1, .int (nI (z_M_addOwn (z_M_one (z_M_addOwn (z_M_one (z_M_addOwn (z_M_add (z_M_add xs 456901681454) 465491093294) 11) 36) (t - 1)) 36) t).length), .ref a2, .int n2, .ref a3, .ref a4, .int n3])), (a1, .inl (gI g, 200, .inl md_207))] H := hP
              have hD : va_D A [(h0, .inr (4, [.ref a1, .int (nI (z_M_addOwn (z_M_one (z_M_addOwn (z_M_one (z_M_addOwn (z_M_add (z_M_add xs 456901681454) 465491093294) 11) 36) (t - 1)) 36) t).length), .ref a2, .int n2, .ref a3, .ref a4, .int n3])), (a1, .inl (gI g, 200, .inl md_207))] := hD
              have e : z_M_addName xs t = (z_M_addOwn (z_M_one (z_M_addOwn (z_M_one (z_M_addOwn (z_M_add (z_M_add xs 456901681454) 465491093294) 11) 36) (t - 1)) 36) t) := by rw [z_M_addName, if_neg c_1, if_pos c_73, if_neg c_145, if_neg c_181, if_pos c_193, if_neg c_205]
              exact ret_v hx hb hr hlk (hP.sub (ws' := [(h0, .inr (4, [.ref a1, .int (nI (z_M_addOwn (z_M_one (z_M_addOwn (z_M_one (z_M_addOwn (z_M_add (z_M_add xs 456901681454) 465491093294) 11) 36) (t - 1)) 36) t).length), .ref a2, .int n2, .ref a3, .ref a4, .int n3])), (a1, .inl (gI g, 200, .inl md_207))]) [0, 1] rfl) (hD.sub (ws' := [(h0, .inr (4, [.ref a1, .int (nI (z_M_addOwn (z_M_one (z_M_addOwn (z_M_one (z_M_addOwn (z_M_add (z_M_add xs 456901681454) 465491093294) 11) 36) (t - 1)) 36) t).length), .ref a2, .int n2, .ref a3, .ref a4, .int n3])), (a1, .inl (gI g, 200, .inl md_207))]) [0, 1] rfl rfl) hS ⟨md_207, by rw [e], by rw [e]; exact hm_207, by rw [e]; omega, by rw [e]; omega⟩ (by first | exact Nat.le_of_ble_eq_true rfl | (dsimp only; omega) | omega) (by first | exact Nat.le_of_ble_eq_true rfl | (dsimp only; omega) | omega) d_M_addName_86
            · skip
              refine lv_aload_n hx hb d_M_addName_75 rfl (lv_at hl 0 rfl) ?_
              refine lv_bipush (v := 49) hx hb d_M_addName_76 (by decide) ?_
              refine go_v (wr := []) (run_V hF (c_M_one g l _ h0 a1 a2 a3 a4 n2 n3 (z_M_one (z_M_addOwn (z_M_one (z_M_addOwn (z_M_add (z_M_add xs 456901681454) 465491093294) 11) 36) (t - 1)) 36) md_204 hm_204 49 (by omega)) k_M_one j_M_79 se_M_M_one (va_recv hK hP (ci := 4) (q0 := 0) rfl rfl) (cw_down G hP hD hS hA [0, 1] rfl rfl) ⟨Nat.le_of_ble_eq_true rfl, Nat.le_of_ble_eq_true rfl⟩ rfl hl.1 (Nat.le_of_ble_eq_true rfl) d_M_addName_78 ⟨(by first | exact Nat.le_of_ble_eq_true rfl | (dsimp only; omega) | omega), (by first | exact Nat.le_of_ble_eq_true rfl | (dsimp only; omega) | omega)⟩) hP hD hS hA [0, 1] [] rfl rfl rfl (by decide) (fun w1 H locs hp hP hD hS => ?_)
              obtain ⟨md_209, rfl, hm_209, hn_209, hn_209b⟩ := hp
              have hP : va_P (gD g) classes [(h0, .inr (4, [.ref a1, .int (nI (z_M_one (z_M_one (z_M_addOwn (z_M_one (z_M_addOwn (z_M_add (z_M_add xs 456901681454) 465491093294) 11) 36) (t - 1)) 36) 49).length), .ref a2, .int n2, .ref a3, .ref a4, .int n3])), (a1, .inl (gI g, 200, .inl md_209))] H := hP
              have hD : va_D A [(h0, .inr (4, [.ref a1, .int (nI (z_M_one (z_M_one (z_M_addOwn (z_M_one (z_M_addOwn (z_M_add (z_M_add xs 456901681454) 465491093294) 11) 36) (t - 1)) 36) 49).length), .ref a2, .int n2, .ref a3, .ref a4, .int n3])), (a1, .inl (gI g, 200, .inl md_209))] := hD
              refine lv_aload_n hx hb d_M_addName_81 rfl (lv_at hl 0 rfl) ?_
              refine lv_iload_n hx hb d_M_addName_82 rfl (lv_at hl 1 rfl) ?_
              refine go_v (wr := []) (run_V hF (c_M_addOwn g l _ h0 a1 a2 a3 a4 n2 n3 (z_M_one (z_M_one (z_M_addOwn (z_M_one (z_M_addOwn (z_M_add (z_M_add xs 456901681454) 465491093294) 11) 36) (t - 1)) 36) 49) md_209 hm_209 t (by omega)) k_M_addOwn j_M_99 se_M_M_addOwn (va_recv hK hP (ci := 4) (q0 := 0) rfl rfl) (cw_down G hP hD hS hA [0, 1] rfl rfl) ⟨Nat.le_of_ble_eq_true rfl, Nat.le_of_ble_eq_true rfl⟩ rfl hl.1 (Nat.le_of_ble_eq_true rfl) d_M_addName_83 ⟨(by first | exact Nat.le_of_ble_eq_true rfl | (dsimp only; omega) | omega), (by first | exact Nat.le_of_ble_eq_true rfl | (dsimp only; omega) | omega)⟩) hP hD hS hA [0, 1] [] rfl rfl rfl (by decide) (fun w1 H locs hp hP hD hS => ?_)
              obtain ⟨md_211, rfl, hm_211, hn_211, hn_211b⟩ := hp
              have hP : va_P (gD g) classes [(h0, .inr (4, [.ref a1, .int (nI (z_M_addOwn (z_M_one (z_M_one (z_M_addOwn (z_M_one (z_M_addOwn (z_M_add (z_M_add xs 456901681454) 465491093294) 11) 36) (t - 1)) 36) 49) t).length), .ref a2, .int n2, .ref a3, .ref a4, .int n3])), (a1, .inl (gI g, 200, .inl md_211))] H := hP
              have hD : va_D A [(h0, .inr (4, [.ref a1, .int (nI (z_M_addOwn (z_M_one (z_M_one (z_M_addOwn (z_M_one (z_M_addOwn (z_M_add (z_M_add xs 456901681454) 465491093294) 11) 36) (t - 1)) 36) 49) t).length), .ref a2, .int n2, .ref a3, .ref a4, .int n3])), (a1, .inl (gI g, 200, .inl md_211))] := hD
              have e : z_M_addName xs t = (z_M_addOwn (z_M_one (z_M_one (z_M_addOwn (z_M_one (z_M_addOwn (z_M_add (z_M_add xs 456901681454) 465491093294) 11) 36) (t - 1)) 36) 49) t) := by rw [z_M_addName, if_neg c_1, if_pos c_73, if_neg c_145, if_neg c_181, if_pos c_193, if_pos c_205]
              exact ret_v hx hb hr hlk (hP.sub (ws' := [(h0, .inr (4, [.ref a1, .int (nI (z_M_addOwn (z_M_one (z_M_one (z_M_addOwn (z_M_one (z_M_addOwn (z_M_add (z_M_add xs 456901681454) 465491093294) 11) 36) (t - 1)) 36) 49) t).length), .ref a2, .int n2, .ref a3, .ref a4, .int n3])), (a1, .inl (gI g, 200, .inl md_211))]) [0, 1] rfl) (hD.sub (ws' := [(h0, .inr (4, [.ref a1, .int (nI (z_M_addOwn (z_M_one (z_M_one (z_M_addOwn (z_M_one (z_M_addOwn (z_M_add (z_M_add xs 456901681454) 465491093294) 11) 36) (t - 1)) 36) 49) t).length), .ref a2, .int n2, .ref a3, .ref a4, .int n3])), (a1, .inl (gI g, 200, .inl md_211))]) [0, 1] rfl rfl) hS ⟨md_211, by rw [e], by rw [e]; exact hm_211, by rw [e]; omega, by rw [e]; omega⟩ (by first | exact Nat.le_of_ble_eq_true rfl | (dsimp only; omega) | omega) (by first | exact Nat.le_of_ble_eq_true rfl | (dsimp only; omega) | omega) d_M_addName_86
end
section
/-- from place k up to place i each o becomes n -/
def rpf (k i : Nat) (o n : Int32) : Nat → List Int32 → List Int32
  | _, [] => []
  | j, c :: cs => (if k ≤ j ∧ j < i ∧ c = o then n else c) :: rpf k i o n (j + 1) cs
theorem rpf_len (k i : Nat) (o n : Int32) : ∀ (xs : List Int32) (j : Nat), (rpf k i o n j xs).length = xs.length := by
  intro xs
  induction xs with
  | nil => intro j; rfl
  | cons c cs ih => intro j; rw [rpf, List.length_cons, List.length_cons, ih]
theorem rpf_at (k i : Nat) (o n : Int32) : ∀ (xs : List Int32) (j p : Nat), p < xs.length → (rpf k i o n j xs).getD p 0 = if k ≤ j + p ∧ j + p < i ∧ xs.getD p 0 = o then n else xs.getD p 0 := by
  intro xs
  induction xs with
  | nil => intro j p hp; simp at hp
  | cons c cs ih =>
    intro j p hp
    rw [rpf]
    cases p with
    | zero => rfl
    | succ p =>
      have h1 := ih (j + 1) p (by simpa using hp)
      simp only [List.getD_cons_succ]
      rw [h1, show j + 1 + p = j + (p + 1) by omega]
theorem rpf_0 (k : Nat) (o n : Int32) : ∀ (xs : List Int32) (j : Nat), rpf k k o n j xs = xs := by
  intro xs
  induction xs with
  | nil => intro j; rfl
  | cons c cs ih => intro j; rw [rpf, ih, if_neg (by omega)]
theorem mt_rp1 {k i : Nat} {o n : Int32} {L : List Int32} {md : Nat → Int32} (hm : mt (rpf k i o n 0 L) md) (hk : k ≤ i) (hi : i < L.length) (hc : md i = o) : mt (rpf k (i + 1) o n 0 L) (upd md i n) := by
  have hl := rpf_len k i o n L 0
  refine ⟨by rw [rpf_len]; rw [← hl]; exact hm.1, fun p hp => ?_⟩
  rw [rpf_len] at hp
  have h2 := hm.2 p (by rw [hl]; exact hp)
  rw [rpf_at k i o n L 0 p hp] at h2
  rw [rpf_at k (i + 1) o n L 0 p hp]
  by_cases e : p = i
  · subst e
    have h3 : L.getD p 0 = o := by rw [if_neg (by omega)] at h2; rw [← h2]; exact hc
    rw [pk_us, if_pos ⟨by omega, by omega, h3⟩]
  · rw [pk_un e, h2]
    by_cases q : k ≤ 0 + p ∧ 0 + p < i ∧ L.getD p 0 = o
    · rw [if_pos q, if_pos ⟨q.1, by omega, q.2.2⟩]
    · rw [if_neg q, if_neg (fun z => q ⟨z.1, by omega, z.2.2⟩)]
theorem mt_rp0 {k i : Nat} {o n : Int32} {L : List Int32} {md : Nat → Int32} (hm : mt (rpf k i o n 0 L) md) (hi : i < L.length) (hc : ¬ md i = o) : mt (rpf k (i + 1) o n 0 L) md := by
  have hl := rpf_len k i o n L 0
  refine ⟨by rw [rpf_len]; rw [← hl]; exact hm.1, fun p hp => ?_⟩
  rw [rpf_len] at hp
  have h2 := hm.2 p (by rw [hl]; exact hp)
  rw [rpf_at k i o n L 0 p hp] at h2
  rw [rpf_at k (i + 1) o n L 0 p hp]
  by_cases e : p = i
  · subst e
    rw [if_neg (by omega)] at h2
    rw [if_neg (fun z => hc (h2.trans z.2.2))]
    exact h2
  · rw [h2]
    by_cases q : k ≤ 0 + p ∧ 0 + p < i ∧ L.getD p 0 = o
    · rw [if_pos q, if_pos ⟨q.1, by omega, q.2.2⟩]
    · rw [if_neg q, if_neg (fun z => q ⟨z.1, by omega, z.2.2⟩)]
theorem m_prim {t : Int32} (h : ¬ f_M_primitive t = 0) : vp_in t 9 := by
  have h1 : ¬ t < 0 := fun q => h (by rw [f_M_primitive]; exact in_out (Or.inl q))
  have h2 : ¬ 8 < t := fun q => h (by rw [f_M_primitive]; exact in_out (Or.inr q))
  obtain ⟨j, hj, rfl⟩ := nI_of h1
  refine vp_in_nI ?_ (by decide)
  rcases Nat.lt_or_ge j 9 with q | q
  · exact q
  · exact absurd (nI_lt (a := 8) (b := j) (by omega) hj) h2

def z_M_addTail (xs : List Int32) (t : Int32) : List Int32 := (if (f_M_levels t) ≤ 0 then xs else (if (f_M_levels t) ≤ 1 then (z_M_one (z_M_one xs 91) 93) else (z_M_one (z_M_one (z_M_one (z_M_one xs 91) 93) 91) 93)))
set_option maxRecDepth 100000 in
theorem k_M_addTail : ck y_M_addTail b_M_addTail 3 (none) 1 (.instanceMethod y_M_addTail) := ⟨tk_of (List.mem_of_getElem? (i := 778) rfl) rfl, tk_of (List.mem_of_getElem? (i := 777) (by decide +kernel)) rfl, tk_of (List.mem_of_getElem? (i := 43) (by decide +kernel)) rfl, by decide +kernel⟩
theorem j_M_113 : Cond.methodLink R_M 113 y_M_levels ∈ tk := tk_of (List.mem_of_getElem? (i := 713) (by decide +kernel)) rfl
set_option maxHeartbeats 4000000 in
set_option maxRecDepth 100000 in
theorem c_M_addTail (g : gT) (l : Launch) (sz : Nat) (h0 a1 a2 a3 a4 : Nat) (n2 n3 : Int32) (xs : List Int32) (md : Nat → Int32) (hm : mt xs md) (t : Int32) (hlen : xs.length + 4 ≤ 200) (hL : f_M_levels t ≤ 2) : Mg g l y_M_addTail b_M_addTail 3 (none) 1 21 0 0 [.ref h0, .int t] [(h0, .inr (4, [.ref a1, .int (nI xs.length), .ref a2, .int n2, .ref a3, .ref a4, .int n3])), (a1, .inl (gI g, 200, .inl md))] sz (qV g (fun w1 => ∃ md' : Nat → Int32, w1 = [(h0, .inr (4, [.ref a1, .int (nI (z_M_addTail xs t).length), .ref a2, .int n2, .ref a3, .ref a4, .int n3])), (a1, .inl (gI g, 200, .inl md'))] ∧ mt (z_M_addTail xs t) md' ∧ (z_M_addTail xs t).length ≤ xs.length + 4 ∧ xs.length ≤ (z_M_addTail xs t).length)) := by
  refine mg_of (by decide) (Nat.le_of_ble_eq_true rfl) ?_
  intro p e s m below meth c ls A hx hb hF hr hlk hnm hA G hP hD hS hl
  have hK := G.2.1
  have hN := G.1
  have hl : lv_has ls 3 [(0, .ref h0), (1, .int t)] := hl
  refine lv_iconst (v := 0) hx hb d_M_addTail_0 (by decide) ?_
  refine lv_istore_n (lv' := [(2, .int 0), (0, .ref h0), (1, .int t)]) hx hb d_M_addTail_1 rfl hl (by decide) rfl (fun ls hl => ?_)
  refine lv_iload_n hx hb d_M_addTail_2 rfl (lv_at hl 0 rfl) ?_
  refine lv_iload_n hx hb d_M_addTail_3 rfl (lv_at hl 2 rfl) ?_
  refine pm_callE hF hN (c_M_levels l t) k_M_levels j_M_113 ⟨Nat.le_of_ble_eq_true rfl, Nat.le_of_ble_eq_true rfl⟩ rfl hl.1 (Nat.le_of_ble_eq_true rfl) d_M_addTail_4 ⟨by first | omega | exact Nat.zero_le _, by first | omega | exact Nat.zero_le _⟩ ?_
  refine lv_icmp_ge (tgt := 28) hx hb d_M_addTail_7 (by decide) (fun c_2 => ?_) (fun c_2 => ?_)
  · skip
    have e : z_M_addTail xs t = xs := by rw [z_M_addTail, if_pos c_2]
    exact ret_v hx hb hr hlk (hP.sub (ws' := [(h0, .inr (4, [.ref a1, .int (nI xs.length), .ref a2, .int n2, .ref a3, .ref a4, .int n3])), (a1, .inl (gI g, 200, .inl md))]) [0, 1] rfl) (hD.sub (ws' := [(h0, .inr (4, [.ref a1, .int (nI xs.length), .ref a2, .int n2, .ref a3, .ref a4, .int n3])), (a1, .inl (gI g, 200, .inl md))]) [0, 1] rfl rfl) hS ⟨md, by rw [e], by rw [e]; exact hm, by rw [e]; omega, by rw [e]; omega⟩ (by first | exact Nat.le_of_ble_eq_true rfl | (dsimp only; omega) | omega) (by first | exact Nat.le_of_ble_eq_true rfl | (dsimp only; omega) | omega) d_M_addTail_28
  · skip
    refine lv_aload_n hx hb d_M_addTail_10 rfl (lv_at hl 1 rfl) ?_
    refine lv_bipush (v := 91) hx hb d_M_addTail_11 (by decide) ?_
    refine go_v (wr := []) (run_V hF (c_M_one g l _ h0 a1 a2 a3 a4 n2 n3 xs md hm 91 (by omega)) k_M_one j_M_79 se_M_M_one (va_recv hK hP (ci := 4) (q0 := 0) rfl rfl) (cw_down G hP hD hS hA [0, 1] rfl rfl) ⟨Nat.le_of_ble_eq_true rfl, Nat.le_of_ble_eq_true rfl⟩ rfl hl.1 (Nat.le_of_ble_eq_true rfl) d_M_addTail_13 ⟨(by first | exact Nat.le_of_ble_eq_true rfl | (dsimp only; omega) | omega), (by first | exact Nat.le_of_ble_eq_true rfl | (dsimp only; omega) | omega)⟩) hP hD hS hA [0, 1] [] rfl rfl rfl (by decide) (fun w1 H locs hp hP hD hS => ?_)
    obtain ⟨md_4, rfl, hm_4, hn_4, hn_4b⟩ := hp
    have hP : va_P (gD g) classes [(h0, .inr (4, [.ref a1, .int (nI (z_M_one xs 91).length), .ref a2, .int n2, .ref a3, .ref a4, .int n3])), (a1, .inl (gI g, 200, .inl md_4))] H := hP
    have hD : va_D A [(h0, .inr (4, [.ref a1, .int (nI (z_M_one xs 91).length), .ref a2, .int n2, .ref a3, .ref a4, .int n3])), (a1, .inl (gI g, 200, .inl md_4))] := hD
    refine lv_aload_n hx hb d_M_addTail_16 rfl (lv_at hl 1 rfl) ?_
    refine lv_bipush (v := 93) hx hb d_M_addTail_17 (by decide) ?_
    refine go_v (wr := []) (run_V hF (c_M_one g l _ h0 a1 a2 a3 a4 n2 n3 (z_M_one xs 91) md_4 hm_4 93 (by omega)) k_M_one j_M_79 se_M_M_one (va_recv hK hP (ci := 4) (q0 := 0) rfl rfl) (cw_down G hP hD hS hA [0, 1] rfl rfl) ⟨Nat.le_of_ble_eq_true rfl, Nat.le_of_ble_eq_true rfl⟩ rfl hl.1 (Nat.le_of_ble_eq_true rfl) d_M_addTail_19 ⟨(by first | exact Nat.le_of_ble_eq_true rfl | (dsimp only; omega) | omega), (by first | exact Nat.le_of_ble_eq_true rfl | (dsimp only; omega) | omega)⟩) hP hD hS hA [0, 1] [] rfl rfl rfl (by decide) (fun w1 H locs hp hP hD hS => ?_)
    obtain ⟨md_6, rfl, hm_6, hn_6, hn_6b⟩ := hp
    have hP : va_P (gD g) classes [(h0, .inr (4, [.ref a1, .int (nI (z_M_one (z_M_one xs 91) 93).length), .ref a2, .int n2, .ref a3, .ref a4, .int n3])), (a1, .inl (gI g, 200, .inl md_6))] H := hP
    have hD : va_D A [(h0, .inr (4, [.ref a1, .int (nI (z_M_one (z_M_one xs 91) 93).length), .ref a2, .int n2, .ref a3, .ref a4, .int n3])), (a1, .inl (gI g, 200, .inl md_6))] := hD
    refine lv_iinc (v := 1) (lv' := [(2, .int 1), (0, .ref h0), (1, .int t)]) hx hb d_M_addTail_22 hl (k := 0) rfl (by first | rfl | decide) (by decide) rfl (fun ls hl => ?_)
    refine lv_goto (tgt := 2) hx hb d_M_addTail_25 (by decide) ?_
    refine lv_iload_n hx hb d_M_addTail_2 rfl (lv_at hl 0 rfl) ?_
    refine lv_iload_n hx hb d_M_addTail_3 rfl (lv_at hl 2 rfl) ?_
    refine pm_callE hF hN (c_M_levels l t) k_M_levels j_M_113 ⟨Nat.le_of_ble_eq_true rfl, Nat.le_of_ble_eq_true rfl⟩ rfl hl.1 (Nat.le_of_ble_eq_true rfl) d_M_addTail_4 ⟨by first | omega | exact Nat.zero_le _, by first | omega | exact Nat.zero_le _⟩ ?_
    refine lv_icmp_ge (tgt := 28) hx hb d_M_addTail_7 (by decide) (fun c_8 => ?_) (fun c_8 => ?_)
    · skip
      have e : z_M_addTail xs t = (z_M_one (z_M_one xs 91) 93) := by rw [z_M_addTail, if_neg c_2, if_pos c_8]
      exact ret_v hx hb hr hlk (hP.sub (ws' := [(h0, .inr (4, [.ref a1, .int (nI (z_M_one (z_M_one xs 91) 93).length), .ref a2, .int n2, .ref a3, .ref a4, .int n3])), (a1, .inl (gI g, 200, .inl md_6))]) [0, 1] rfl) (hD.sub (ws' := [(h0, .inr (4, [.ref a1, .int (nI (z_M_one (z_M_one xs 91) 93).length), .ref a2, .int n2, .ref a3, .ref a4, .int n3])), (a1, .inl (gI g, 200, .inl md_6))]) [0, 1] rfl rfl) hS ⟨md_6, by rw [e], by rw [e]; exact hm_6, by rw [e]; omega, by rw [e]; omega⟩ (by first | exact Nat.le_of_ble_eq_true rfl | (dsimp only; omega) | omega) (by first | exact Nat.le_of_ble_eq_true rfl | (dsimp only; omega) | omega) d_M_addTail_28
    · skip
      refine lv_aload_n hx hb d_M_addTail_10 rfl (lv_at hl 1 rfl) ?_
      refine lv_bipush (v := 91) hx hb d_M_addTail_11 (by decide) ?_
      refine go_v (wr := []) (run_V hF (c_M_one g l _ h0 a1 a2 a3 a4 n2 n3 (z_M_one (z_M_one xs 91) 93) md_6 hm_6 91 (by omega)) k_M_one j_M_79 se_M_M_one (va_recv hK hP (ci := 4) (q0 := 0) rfl rfl) (cw_down G hP hD hS hA [0, 1] rfl rfl) ⟨Nat.le_of_ble_eq_true rfl, Nat.le_of_ble_eq_true rfl⟩ rfl hl.1 (Nat.le_of_ble_eq_true rfl) d_M_addTail_13 ⟨(by first | exact Nat.le_of_ble_eq_true rfl | (dsimp only; omega) | omega), (by first | exact Nat.le_of_ble_eq_true rfl | (dsimp only; omega) | omega)⟩) hP hD hS hA [0, 1] [] rfl rfl rfl (by decide) (fun w1 H locs hp hP hD hS => ?_)
      obtain ⟨md_10, rfl, hm_10, hn_10, hn_10b⟩ := hp
      have hP : va_P (gD g) classes [(h0, .inr (4, [.ref a1, .int (nI (z_M_one (z_M_one (z_M_one xs 91) 93) 91).length), .ref a2, .int n2, .ref a3, .ref a4, .int n3])), (a1, .inl (gI g, 200, .inl md_10))] H := hP
      have hD : va_D A [(h0, .inr (4, [.ref a1, .int (nI (z_M_one (z_M_one (z_M_one xs 91) 93) 91).length), .ref a2, .int n2, .ref a3, .ref a4, .int n3])), (a1, .inl (gI g, 200, .inl md_10))] := hD
      refine lv_aload_n hx hb d_M_addTail_16 rfl (lv_at hl 1 rfl) ?_
      refine lv_bipush (v := 93) hx hb d_M_addTail_17 (by decide) ?_
      refine go_v (wr := []) (run_V hF (c_M_one g l _ h0 a1 a2 a3 a4 n2 n3 (z_M_one (z_M_one (z_M_one xs 91) 93) 91) md_10 hm_10 93 (by omega)) k_M_one j_M_79 se_M_M_one (va_recv hK hP (ci := 4) (q0 := 0) rfl rfl) (cw_down G hP hD hS hA [0, 1] rfl rfl) ⟨Nat.le_of_ble_eq_true rfl, Nat.le_of_ble_eq_true rfl⟩ rfl hl.1 (Nat.le_of_ble_eq_true rfl) d_M_addTail_19 ⟨(by first | exact Nat.le_of_ble_eq_true rfl | (dsimp only; omega) | omega), (by first | exact Nat.le_of_ble_eq_true rfl | (dsimp only; omega) | omega)⟩) hP hD hS hA [0, 1] [] rfl rfl rfl (by decide) (fun w1 H locs hp hP hD hS => ?_)
      obtain ⟨md_12, rfl, hm_12, hn_12, hn_12b⟩ := hp
      have hP : va_P (gD g) classes [(h0, .inr (4, [.ref a1, .int (nI (z_M_one (z_M_one (z_M_one (z_M_one xs 91) 93) 91) 93).length), .ref a2, .int n2, .ref a3, .ref a4, .int n3])), (a1, .inl (gI g, 200, .inl md_12))] H := hP
      have hD : va_D A [(h0, .inr (4, [.ref a1, .int (nI (z_M_one (z_M_one (z_M_one (z_M_one xs 91) 93) 91) 93).length), .ref a2, .int n2, .ref a3, .ref a4, .int n3])), (a1, .inl (gI g, 200, .inl md_12))] := hD
      refine lv_iinc (v := 2) (lv' := [(2, .int 2), (0, .ref h0), (1, .int t)]) hx hb d_M_addTail_22 hl (k := 0) rfl (by first | rfl | decide) (by decide) rfl (fun ls hl => ?_)
      refine lv_goto (tgt := 2) hx hb d_M_addTail_25 (by decide) ?_
      refine lv_iload_n hx hb d_M_addTail_2 rfl (lv_at hl 0 rfl) ?_
      refine lv_iload_n hx hb d_M_addTail_3 rfl (lv_at hl 2 rfl) ?_
      refine pm_callE hF hN (c_M_levels l t) k_M_levels j_M_113 ⟨Nat.le_of_ble_eq_true rfl, Nat.le_of_ble_eq_true rfl⟩ rfl hl.1 (Nat.le_of_ble_eq_true rfl) d_M_addTail_4 ⟨by first | omega | exact Nat.zero_le _, by first | omega | exact Nat.zero_le _⟩ ?_
      refine lv_icmp_ge (tgt := 28) hx hb d_M_addTail_7 (by decide) (fun c_14 => ?_) (fun c_14 => absurd hL c_14)
      have e : z_M_addTail xs t = (z_M_one (z_M_one (z_M_one (z_M_one xs 91) 93) 91) 93) := by rw [z_M_addTail, if_neg c_2, if_neg c_8]
      exact ret_v hx hb hr hlk (hP.sub (ws' := [(h0, .inr (4, [.ref a1, .int (nI (z_M_one (z_M_one (z_M_one (z_M_one xs 91) 93) 91) 93).length), .ref a2, .int n2, .ref a3, .ref a4, .int n3])), (a1, .inl (gI g, 200, .inl md_12))]) [0, 1] rfl) (hD.sub (ws' := [(h0, .inr (4, [.ref a1, .int (nI (z_M_one (z_M_one (z_M_one (z_M_one xs 91) 93) 91) 93).length), .ref a2, .int n2, .ref a3, .ref a4, .int n3])), (a1, .inl (gI g, 200, .inl md_12))]) [0, 1] rfl rfl) hS ⟨md_12, by rw [e], by rw [e]; exact hm_12, by rw [e]; omega, by rw [e]; omega⟩ (by first | exact Nat.le_of_ble_eq_true rfl | (dsimp only; omega) | omega) (by first | exact Nat.le_of_ble_eq_true rfl | (dsimp only; omega) | omega) d_M_addTail_28
def z_M_addWord (xs : List Int32) (b : Int32) (u1 u2 : Int64) : List Int32 := (if b = 0 then xs else (if (nI xs.length) ≤ 0 then (z_M_add (z_M_add xs u1) u2) else (z_M_add (z_M_add (z_M_one xs 32) u1) u2)))
set_option maxRecDepth 100000 in
theorem k_M_addWord : ck y_M_addWord b_M_addWord 6 (none) 3 (.instanceMethod y_M_addWord) := ⟨tk_of (List.mem_of_getElem? (i := 788) rfl) rfl, tk_of (List.mem_of_getElem? (i := 787) (by decide +kernel)) rfl, tk_of (List.mem_of_getElem? (i := 43) (by decide +kernel)) rfl, by decide +kernel⟩
set_option maxHeartbeats 4000000 in
set_option maxRecDepth 100000 in
theorem c_M_addWord (g : gT) (l : Launch) (sz : Nat) (h0 a1 a2 a3 a4 : Nat) (n2 n3 : Int32) (xs : List Int32) (md : Nat → Int32) (hm : mt xs md) (b : Int32) (u1 u2 : Int64) (hlen : xs.length + 17 ≤ 200) : Mg g l y_M_addWord b_M_addWord 6 (none) 2 45 0 0 [.ref h0, .int b, .long u1, .long u2] [(h0, .inr (4, [.ref a1, .int (nI xs.length), .ref a2, .int n2, .ref a3, .ref a4, .int n3])), (a1, .inl (gI g, 200, .inl md))] sz (qV g (fun w1 => ∃ md' : Nat → Int32, w1 = [(h0, .inr (4, [.ref a1, .int (nI (z_M_addWord xs b u1 u2).length), .ref a2, .int n2, .ref a3, .ref a4, .int n3])), (a1, .inl (gI g, 200, .inl md'))] ∧ mt (z_M_addWord xs b u1 u2) md' ∧ (z_M_addWord xs b u1 u2).length ≤ xs.length + 17 ∧ xs.length ≤ (z_M_addWord xs b u1 u2).length)) := by
  refine mg_of (by decide) (Nat.le_of_ble_eq_true rfl) ?_
  intro p e s m below meth c ls A hx hb hF hr hlk hnm hA G hP hD hS hl
  have hK := G.2.1
  have hN := G.1
  have hl : lv_has ls 6 [(0, .ref h0), (1, .int b), (2, .long u1), (4, .long u2)] := hl
  refine lv_iload_n hx hb d_M_addWord_0 rfl (lv_at hl 1 rfl) ?_
  refine lv_if_ne (tgt := 5) hx hb d_M_addWord_1 (by decide) (fun c_1 => ?_) (fun c_1 => ?_)
  · skip
    refine lv_aload_n hx hb d_M_addWord_5 rfl (lv_at hl 0 rfl) ?_
    refine va_get (D := gD g) (ci := 4) (v := .int (nI xs.length)) (C := R_M) (T := F_M) (N := 7) hx hb hF.2.2.2.2 in_M hF.2.2.2.1 hK hP 0 rfl rfl 1 (by decide) (hF.2.2.2.2 _ fl_M_76) (fun _ h9 => h9) rfl d_M_addWord_6 ?_
    refine lv_if_le (tgt := 18) hx hb d_M_addWord_9 (by decide) (fun c_2 => ?_) (fun c_2 => ?_)
    · skip
      refine lv_aload_n hx hb d_M_addWord_18 rfl (lv_at hl 0 rfl) ?_
      refine lv_lload_n hx hb d_M_addWord_19 rfl (lv_at hl 2 rfl) ?_
      refine go_v (wr := []) (run_V hF (c_M_add g l _ h0 a1 a2 a3 a4 n2 n3 xs md hm u1 (by omega)) k_M_add j_M_85 se_M_M_add (va_recv hK hP (ci := 4) (q0 := 0) rfl rfl) (cw_down G hP hD hS hA [0, 1] rfl rfl) ⟨Nat.le_of_ble_eq_true rfl, Nat.le_of_ble_eq_true rfl⟩ rfl hl.1 (Nat.le_of_ble_eq_true rfl) d_M_addWord_20 ⟨(by first | exact Nat.le_of_ble_eq_true rfl | (dsimp only; omega) | omega), (by first | exact Nat.le_of_ble_eq_true rfl | (dsimp only; omega) | omega)⟩) hP hD hS hA [0, 1] [] rfl rfl rfl (by decide) (fun w1 H locs hp hP hD hS => ?_)
      obtain ⟨md_4, rfl, hm_4, hn_4, hn_4b⟩ := hp
      have hP : va_P (gD g) classes [(h0, .inr (4, [.ref a1, .int (nI (z_M_add xs u1).length), .ref a2, .int n2, .ref a3, .ref a4, .int n3])), (a1, .inl (gI g, 200, .inl md_4))] H := hP
      have hD : va_D A [(h0, .inr (4, [.ref a1, .int (nI (z_M_add xs u1).length), .ref a2, .int n2, .ref a3, .ref a4, .int n3])), (a1, .inl (gI g, 200, .inl md_4))] := hD
      refine lv_aload_n hx hb d_M_addWord_23 rfl (lv_at hl 0 rfl) ?_
      refine lv_lload hx hb d_M_addWord_24 (lv_at hl 3 rfl) ?_
      refine go_v (wr := []) (run_V hF (c_M_add g l _ h0 a1 a2 a3 a4 n2 n3 (z_M_add xs u1) md_4 hm_4 u2 (by omega)) k_M_add j_M_85 se_M_M_add (va_recv hK hP (ci := 4) (q0 := 0) rfl rfl) (cw_down G hP hD hS hA [0, 1] rfl rfl) ⟨Nat.le_of_ble_eq_true rfl, Nat.le_of_ble_eq_true rfl⟩ rfl hl.1 (Nat.le_of_ble_eq_true rfl) d_M_addWord_26 ⟨(by first | exact Nat.le_of_ble_eq_true rfl | (dsimp only; omega) | omega), (by first | exact Nat.le_of_ble_eq_true rfl | (dsimp only; omega) | omega)⟩) hP hD hS hA [0, 1] [] rfl rfl rfl (by decide) (fun w1 H locs hp hP hD hS => ?_)
      obtain ⟨md_6, rfl, hm_6, hn_6, hn_6b⟩ := hp
      have hP : va_P (gD g) classes [(h0, .inr (4, [.ref a1, .int (nI (z_M_add (z_M_add xs u1) u2).length), .ref a2, .int n2, .ref a3, .ref a4, .int n3])), (a1, .inl (gI g, 200, .inl md_6))] H := hP
      have hD : va_D A [(h0, .inr (4, [.ref a1, .int (nI (z_M_add (z_M_add xs u1) u2).length), .ref a2, .int n2, .ref a3, .ref a4, .int n3])), (a1, .inl (gI g, 200, .inl md_6))] := hD
      have e : z_M_addWord xs b u1 u2 = (z_M_add (z_M_add xs u1) u2) := by rw [z_M_addWord, if_neg c_1, if_pos c_2]
      exact ret_v hx hb hr hlk (hP.sub (ws' := [(h0, .inr (4, [.ref a1, .int (nI (z_M_add (z_M_add xs u1) u2).length), .ref a2, .int n2, .ref a3, .ref a4, .int n3])), (a1, .inl (gI g, 200, .inl md_6))]) [0, 1] rfl) (hD.sub (ws' := [(h0, .inr (4, [.ref a1, .int (nI (z_M_add (z_M_add xs u1) u2).length), .ref a2, .int n2, .ref a3, .ref a4, .int n3])), (a1, .inl (gI g, 200, .inl md_6))]) [0, 1] rfl rfl) hS ⟨md_6, by rw [e], by rw [e]; exact hm_6, by rw [e]; omega, by rw [e]; omega⟩ (by first | exact Nat.le_of_ble_eq_true rfl | (dsimp only; omega) | omega) (by first | exact Nat.le_of_ble_eq_true rfl | (dsimp only; omega) | omega) d_M_addWord_29
    · skip
      refine lv_aload_n hx hb d_M_addWord_12 rfl (lv_at hl 0 rfl) ?_
      refine lv_bipush (v := 32) hx hb d_M_addWord_13 (by decide) ?_
      refine go_v (wr := []) (run_V hF (c_M_one g l _ h0 a1 a2 a3 a4 n2 n3 xs md hm 32 (by omega)) k_M_one j_M_79 se_M_M_one (va_recv hK hP (ci := 4) (q0 := 0) rfl rfl) (cw_down G hP hD hS hA [0, 1] rfl rfl) ⟨Nat.le_of_ble_eq_true rfl, Nat.le_of_ble_eq_true rfl⟩ rfl hl.1 (Nat.le_of_ble_eq_true rfl) d_M_addWord_15 ⟨(by first | exact Nat.le_of_ble_eq_true rfl | (dsimp only; omega) | omega), (by first | exact Nat.le_of_ble_eq_true rfl | (dsimp only; omega) | omega)⟩) hP hD hS hA [0, 1] [] rfl rfl rfl (by decide) (fun w1 H locs hp hP hD hS => ?_)
      obtain ⟨md_8, rfl, hm_8, hn_8, hn_8b⟩ := hp
      have hP : va_P (gD g) classes [(h0, .inr (4, [.ref a1, .int (nI (z_M_one xs 32).length), .ref a2, .int n2, .ref a3, .ref a4, .int n3])), (a1, .inl (gI g, 200, .inl md_8))] H := hP
      have hD : va_D A [(h0, .inr (4, [.ref a1, .int (nI (z_M_one xs 32).length), .ref a2, .int n2, .ref a3, .ref a4, .int n3])), (a1, .inl (gI g, 200, .inl md_8))] := hD
      refine lv_aload_n hx hb d_M_addWord_18 rfl (lv_at hl 0 rfl) ?_
      refine lv_lload_n hx hb d_M_addWord_19 rfl (lv_at hl 2 rfl) ?_
      refine go_v (wr := []) (run_V hF (c_M_add g l _ h0 a1 a2 a3 a4 n2 n3 (z_M_one xs 32) md_8 hm_8 u1 (by omega)) k_M_add j_M_85 se_M_M_add (va_recv hK hP (ci := 4) (q0 := 0) rfl rfl) (cw_down G hP hD hS hA [0, 1] rfl rfl) ⟨Nat.le_of_ble_eq_true rfl, Nat.le_of_ble_eq_true rfl⟩ rfl hl.1 (Nat.le_of_ble_eq_true rfl) d_M_addWord_20 ⟨(by first | exact Nat.le_of_ble_eq_true rfl | (dsimp only; omega) | omega), (by first | exact Nat.le_of_ble_eq_true rfl | (dsimp only; omega) | omega)⟩) hP hD hS hA [0, 1] [] rfl rfl rfl (by decide) (fun w1 H locs hp hP hD hS => ?_)
      obtain ⟨md_10, rfl, hm_10, hn_10, hn_10b⟩ := hp
      have hP : va_P (gD g) classes [(h0, .inr (4, [.ref a1, .int (nI (z_M_add (z_M_one xs 32) u1).length), .ref a2, .int n2, .ref a3, .ref a4, .int n3])), (a1, .inl (gI g, 200, .inl md_10))] H := hP
      have hD : va_D A [(h0, .inr (4, [.ref a1, .int (nI (z_M_add (z_M_one xs 32) u1).length), .ref a2, .int n2, .ref a3, .ref a4, .int n3])), (a1, .inl (gI g, 200, .inl md_10))] := hD
      refine lv_aload_n hx hb d_M_addWord_23 rfl (lv_at hl 0 rfl) ?_
      refine lv_lload hx hb d_M_addWord_24 (lv_at hl 3 rfl) ?_
      refine go_v (wr := []) (run_V hF (c_M_add g l _ h0 a1 a2 a3 a4 n2 n3 (z_M_add (z_M_one xs 32) u1) md_10 hm_10 u2 (by omega)) k_M_add j_M_85 se_M_M_add (va_recv hK hP (ci := 4) (q0 := 0) rfl rfl) (cw_down G hP hD hS hA [0, 1] rfl rfl) ⟨Nat.le_of_ble_eq_true rfl, Nat.le_of_ble_eq_true rfl⟩ rfl hl.1 (Nat.le_of_ble_eq_true rfl) d_M_addWord_26 ⟨(by first | exact Nat.le_of_ble_eq_true rfl | (dsimp only; omega) | omega), (by first | exact Nat.le_of_ble_eq_true rfl | (dsimp only; omega) | omega)⟩) hP hD hS hA [0, 1] [] rfl rfl rfl (by decide) (fun w1 H locs hp hP hD hS => ?_)
      obtain ⟨md_12, rfl, hm_12, hn_12, hn_12b⟩ := hp
      have hP : va_P (gD g) classes [(h0, .inr (4, [.ref a1, .int (nI (z_M_add (z_M_add (z_M_one xs 32) u1) u2).length), .ref a2, .int n2, .ref a3, .ref a4, .int n3])), (a1, .inl (gI g, 200, .inl md_12))] H := hP
      have hD : va_D A [(h0, .inr (4, [.ref a1, .int (nI (z_M_add (z_M_add (z_M_one xs 32) u1) u2).length), .ref a2, .int n2, .ref a3, .ref a4, .int n3])), (a1, .inl (gI g, 200, .inl md_12))] := hD
      have e : z_M_addWord xs b u1 u2 = (z_M_add (z_M_add (z_M_one xs 32) u1) u2) := by rw [z_M_addWord, if_neg c_1, if_neg c_2]
      exact ret_v hx hb hr hlk (hP.sub (ws' := [(h0, .inr (4, [.ref a1, .int (nI (z_M_add (z_M_add (z_M_one xs 32) u1) u2).length), .ref a2, .int n2, .ref a3, .ref a4, .int n3])), (a1, .inl (gI g, 200, .inl md_12))]) [0, 1] rfl) (hD.sub (ws' := [(h0, .inr (4, [.ref a1, .int (nI (z_M_add (z_M_add (z_M_one xs 32) u1) u2).length), .ref a2, .int n2, .ref a3, .ref a4, .int n3])), (a1, .inl (gI g, 200, .inl md_12))]) [0, 1] rfl rfl) hS ⟨md_12, by rw [e], by rw [e]; exact hm_12, by rw [e]; omega, by rw [e]; omega⟩ (by first | exact Nat.le_of_ble_eq_true rfl | (dsimp only; omega) | omega) (by first | exact Nat.le_of_ble_eq_true rfl | (dsimp only; omega) | omega) d_M_addWord_29
  · skip
    have e : z_M_addWord xs b u1 u2 = xs := by rw [z_M_addWord, if_pos c_1]
    exact ret_v hx hb hr hlk (hP.sub (ws' := [(h0, .inr (4, [.ref a1, .int (nI xs.length), .ref a2, .int n2, .ref a3, .ref a4, .int n3])), (a1, .inl (gI g, 200, .inl md))]) [0, 1] rfl) (hD.sub (ws' := [(h0, .inr (4, [.ref a1, .int (nI xs.length), .ref a2, .int n2, .ref a3, .ref a4, .int n3])), (a1, .inl (gI g, 200, .inl md))]) [0, 1] rfl rfl) hS ⟨md, by rw [e], by rw [e]; exact hm, by rw [e]; omega, by rw [e]; omega⟩ (by first | exact Nat.le_of_ble_eq_true rfl | (dsimp only; omega) | omega) (by first | exact Nat.le_of_ble_eq_true rfl | (dsimp only; omega) | omega) d_M_addWord_4
end
section
set_option maxHeartbeats 4000000 in
set_option maxRecDepth 100000 in
theorem lp_M_addDescriptor {p : Program} {l : Launch} {e : Env} {s : State} {m : MethodId} {args : Array Value} {below : List Frame} {meth : Method} {c : Code} {g : gT} {A : Nat → Prop} {Q : State → Prop} {R : Room} {cells slots : Nat} {h0 a1 a2 a3 a4 : Nat} {n2 n3 t : Int32} {sl : Int32} (hsl : ¬ sl = 0) (hx : p.tables.exec = Jvm.exec) (hb : c.code = b_M_addDescriptor) (hF : CallFix p m c b_M_addDescriptor 5 s args tk R_M) (hA : ∀ q, s.heap.size ≤ q → A q) (G : Gx g A s s.heap) (L : List Int32) (hL : L.length ≤ 200) (k : Nat)
    (hend : ∀ (md : Nat → Int32), mt (rpf k L.length 46 47 0 L) md → ∀ (H : Heap) (locs : List Loc) (ls : Array Slot), va_P (gD g) classes [(h0, .inr (4, [.ref a1, .int (nI L.length), .ref a2, .int n2, .ref a3, .ref a4, .int n3])), (a1, .inl (gI g, 200, .inl md))] H → va_D A [(h0, .inr (4, [.ref a1, .int (nI L.length), .ref a2, .int n2, .ref a3, .ref a4, .int n3])), (a1, .inl (gI g, 200, .inl md))] → va_S A s.heap H locs → lv_has ls 5 [(0, .ref h0), (1, .int t), (2, .int sl)] → W p l e R s m args below meth c H locs cells slots Q (F0 m 75 ls [])) :
    ∀ (d i : Nat) (x : Int32) (md : Nat → Int32), i + d = L.length → x = nI i → k ≤ i → mt (rpf k i 46 47 0 L) md → ∀ (H : Heap) (locs : List Loc), va_P (gD g) classes [(h0, .inr (4, [.ref a1, .int (nI L.length), .ref a2, .int n2, .ref a3, .ref a4, .int n3])), (a1, .inl (gI g, 200, .inl md))] H → va_D A [(h0, .inr (4, [.ref a1, .int (nI L.length), .ref a2, .int n2, .ref a3, .ref a4, .int n3])), (a1, .inl (gI g, 200, .inl md))] → va_S A s.heap H locs → ∀ ls : Array Slot, lv_has ls 5 [(4, .int x), (0, .ref h0), (1, .int t), (2, .int sl)] → W p l e R s m args below meth c H locs cells slots Q (F0 m 35 ls []) := by
  have hK := G.2.1
  have hN := G.1
  intro d
  induction d with
  | zero =>
    intro i x md hd ex hk hm H locs hP hD hS ls hl
    have hle : nI L.length ≤ x := by rw [ex]; exact nI_le (by omega) (by omega)
    have ei : i = L.length := by omega
    rw [ei] at hm
    refine lv_iload_n hx hb d_M_addDescriptor_35 rfl (lv_at hl 3 rfl) ?_
    refine lv_if_eq (tgt := 75) hx hb d_M_addDescriptor_36 (by decide) (fun c_1 => absurd c_1 hsl) (fun c_1 => ?_)
    refine lv_iload hx hb d_M_addDescriptor_39 (lv_at hl 0 rfl) ?_
    refine lv_aload_n hx hb d_M_addDescriptor_41 rfl (lv_at hl 1 rfl) ?_
    refine va_get (D := gD g) (ci := 4) (v := .int (nI L.length)) (C := R_M) (T := F_M) (N := 7) hx hb hF.2.2.2.2 in_M hF.2.2.2.1 hK hP 0 rfl rfl 1 (by decide) (hF.2.2.2.2 _ fl_M_76) (fun _ h9 => h9) rfl d_M_addDescriptor_42 ?_
    refine lv_icmp_ge (tgt := 75) hx hb d_M_addDescriptor_45 (by decide) (fun c_2 => ?_) (fun c_2 => absurd hle c_2)
    exact hend md hm H locs ls hP hD hS (lv_sub hl [1, 2, 3] rfl)
  | succ d ih =>
    intro i x md hd ex hk hm H locs hP hD hS ls hl
    have hi : i < L.length := by omega
    have hlt : ¬ nI L.length ≤ x := by rw [ex]; exact nI_ge hi (by omega)
    have hin : vp_in x 200 := by rw [ex]; exact vp_in_nI (by omega) (by decide)
    have ei : x.toNatClampNeg = i := by rw [ex]; exact nI_clamp (by omega)
    refine lv_iload_n hx hb d_M_addDescriptor_35 rfl (lv_at hl 3 rfl) ?_
    refine lv_if_eq (tgt := 75) hx hb d_M_addDescriptor_36 (by decide) (fun c_1 => absurd c_1 hsl) (fun c_1 => ?_)
    refine lv_iload hx hb d_M_addDescriptor_39 (lv_at hl 0 rfl) ?_
    refine lv_aload_n hx hb d_M_addDescriptor_41 rfl (lv_at hl 1 rfl) ?_
    refine va_get (D := gD g) (ci := 4) (v := .int (nI L.length)) (C := R_M) (T := F_M) (N := 7) hx hb hF.2.2.2.2 in_M hF.2.2.2.1 hK hP 0 rfl rfl 1 (by decide) (hF.2.2.2.2 _ fl_M_76) (fun _ h9 => h9) rfl d_M_addDescriptor_42 ?_
    refine lv_icmp_ge (tgt := 75) hx hb d_M_addDescriptor_45 (by decide) (fun c_2 => absurd c_2 hlt) (fun c_2 => ?_)
    refine lv_aload_n hx hb d_M_addDescriptor_48 rfl (lv_at hl 1 rfl) ?_
    refine va_get (D := gD g) (ci := 4) (v := .ref a1) (C := R_M) (T := F_M) (N := 7) hx hb hF.2.2.2.2 in_M hF.2.2.2.1 hK hP 0 rfl rfl 0 (by decide) (hF.2.2.2.2 _ fl_M_7) (fun _ h9 => h9) rfl d_M_addDescriptor_49 ?_
    refine lv_iload hx hb d_M_addDescriptor_52 (lv_at hl 0 rfl) ?_
    refine va_iald hx hb hK hP 1 0 rfl rfl hin d_M_addDescriptor_54 ?_
    refine lv_bipush (v := 46) hx hb d_M_addDescriptor_55 (by decide) ?_
    refine lv_icmp_ne (tgt := 69) hx hb d_M_addDescriptor_57 (by decide) (fun c_3 => ?_) (fun c_3 => ?_)
    · skip
      refine lv_iinc (v := (x + 1)) (lv' := [(4, .int (x + 1)), (0, .ref h0), (1, .int t), (2, .int sl)]) hx hb d_M_addDescriptor_69 hl (k := 0) rfl (by first | rfl | decide) (by decide) rfl (fun ls hl => ?_)
      refine lv_goto (tgt := 35) hx hb d_M_addDescriptor_72 (by decide) ?_
      exact ih (i + 1) _ _ (by omega) (by rw [ex]; exact nI_1 i) (by omega) (mt_rp0 hm hi (by rw [← ei]; exact c_3)) _ _ (hP.sub (ws' := [(h0, .inr (4, [.ref a1, .int (nI L.length), .ref a2, .int n2, .ref a3, .ref a4, .int n3])), (a1, .inl (gI g, 200, .inl md))]) [0, 1] rfl) (hD.sub (ws' := [(h0, .inr (4, [.ref a1, .int (nI L.length), .ref a2, .int n2, .ref a3, .ref a4, .int n3])), (a1, .inl (gI g, 200, .inl md))]) [0, 1] rfl rfl) hS _ (lv_sub hl [0, 1, 2, 3] rfl)
    · skip
      refine lv_aload_n hx hb d_M_addDescriptor_60 rfl (lv_at hl 1 rfl) ?_
      refine va_get (D := gD g) (ci := 4) (v := .ref a1) (C := R_M) (T := F_M) (N := 7) hx hb hF.2.2.2.2 in_M hF.2.2.2.1 hK hP 0 rfl rfl 0 (by decide) (hF.2.2.2.2 _ fl_M_7) (fun _ h9 => h9) rfl d_M_addDescriptor_61 ?_
      refine lv_iload hx hb d_M_addDescriptor_64 (lv_at hl 0 rfl) ?_
      refine lv_bipush (v := 47) hx hb d_M_addDescriptor_66 (by decide) ?_
      refine va_iast hx hb hK hP hD hS 1 0 rfl rfl hin d_M_addDescriptor_68 (fun H locs hP hD hS => ?_)
      have hP : va_P (gD g) classes [(h0, .inr (4, [.ref a1, .int (nI L.length), .ref a2, .int n2, .ref a3, .ref a4, .int n3])), (a1, .inl (gI g, 200, .inl (upd md (x : Int32).toNatClampNeg 47)))] H := hP
      have hD : va_D A [(h0, .inr (4, [.ref a1, .int (nI L.length), .ref a2, .int n2, .ref a3, .ref a4, .int n3])), (a1, .inl (gI g, 200, .inl (upd md (x : Int32).toNatClampNeg 47)))] := hD
      refine lv_iinc (v := (x + 1)) (lv' := [(4, .int (x + 1)), (0, .ref h0), (1, .int t), (2, .int sl)]) hx hb d_M_addDescriptor_69 hl (k := 0) rfl (by first | rfl | decide) (by decide) rfl (fun ls hl => ?_)
      refine lv_goto (tgt := 35) hx hb d_M_addDescriptor_72 (by decide) ?_
      exact ih (i + 1) _ _ (by omega) (by rw [ex]; exact nI_1 i) (by omega) (by rw [ei]; exact mt_rp1 hm hk hi (by rw [← ei]; exact c_3)) _ _ (hP.sub (ws' := [(h0, .inr (4, [.ref a1, .int (nI L.length), .ref a2, .int n2, .ref a3, .ref a4, .int n3])), (a1, .inl (gI g, 200, .inl (upd md (x : Int32).toNatClampNeg 47)))]) [0, 1] rfl) (hD.sub (ws' := [(h0, .inr (4, [.ref a1, .int (nI L.length), .ref a2, .int n2, .ref a3, .ref a4, .int n3])), (a1, .inl (gI g, 200, .inl (upd md (x : Int32).toNatClampNeg 47)))]) [0, 1] rfl rfl) hS _ (lv_sub hl [0, 1, 2, 3] rfl)
def z_M_addDescriptor (xs : List Int32) (t sl : Int32) : List Int32 := (if (f_M_primitive t) = 0 then (if sl = 0 then (z_M_one (z_M_addName (z_M_one xs 76) t) 59) else (z_M_one (rpf (z_M_one xs 76).length (z_M_addName (z_M_one xs 76) t).length 46 47 0 (z_M_addName (z_M_one xs 76) t)) 59)) else (z_M_one xs (f_M_sign t)))
set_option maxRecDepth 100000 in
theorem k_M_addDescriptor : ck y_M_addDescriptor b_M_addDescriptor 5 (none) 2 (.instanceMethod y_M_addDescriptor) := ⟨tk_of (List.mem_of_getElem? (i := 723) rfl) rfl, tk_of (List.mem_of_getElem? (i := 722) (by decide +kernel)) rfl, tk_of (List.mem_of_getElem? (i := 43) (by decide +kernel)) rfl, by decide +kernel⟩
theorem j_M_110 : Cond.methodLink R_M 110 y_M_addName ∈ tk := tk_of (List.mem_of_getElem? (i := 730) (by decide +kernel)) rfl
theorem se_M_M_addName : Cond.selects R_M y_M_addName y_M_addName ∈ tk := tk_of (List.mem_of_getElem? (i := 24) (by decide +kernel)) rfl
theorem j_M_106 : Cond.methodLink R_M 106 y_M_sign ∈ tk := tk_of (List.mem_of_getElem? (i := 727) (by decide +kernel)) rfl
set_option maxHeartbeats 4000000 in
set_option maxRecDepth 100000 in
theorem c_M_addDescriptor (g : gT) (l : Launch) (sz : Nat) (h0 a1 a2 a3 a4 : Nat) (n2 n3 : Int32) (xs : List Int32) (md : Nat → Int32) (hm : mt xs md) (t sl : Int32) (hlen : xs.length + 69 ≤ 200) : Mg g l y_M_addDescriptor b_M_addDescriptor 5 (none) 4 87 1 9 [.ref h0, .int t, .int sl] [(h0, .inr (4, [.ref a1, .int (nI xs.length), .ref a2, .int n2, .ref a3, .ref a4, .int n3])), (a1, .inl (gI g, 200, .inl md))] sz (qV g (fun w1 => ∃ md' : Nat → Int32, w1 = [(h0, .inr (4, [.ref a1, .int (nI (z_M_addDescriptor xs t sl).length), .ref a2, .int n2, .ref a3, .ref a4, .int n3])), (a1, .inl (gI g, 200, .inl md'))] ∧ mt (z_M_addDescriptor xs t sl) md' ∧ (z_M_addDescriptor xs t sl).length ≤ xs.length + 69 ∧ xs.length ≤ (z_M_addDescriptor xs t sl).length)) := by
  refine mg_of (by decide) (Nat.le_of_ble_eq_true rfl) ?_
  intro p e s m below meth c ls A hx hb hF hr hlk hnm hA G hP hD hS hl
  have hK := G.2.1
  have hN := G.1
  have hl : lv_has ls 5 [(0, .ref h0), (1, .int t), (2, .int sl)] := hl
  refine lv_iload_n hx hb d_M_addDescriptor_0 rfl (lv_at hl 1 rfl) ?_
  refine pm_callE hF hN (c_M_primitive l t) k_M_primitive j_M_102 ⟨Nat.le_of_ble_eq_true rfl, Nat.le_of_ble_eq_true rfl⟩ rfl hl.1 (Nat.le_of_ble_eq_true rfl) d_M_addDescriptor_1 ⟨by first | omega | exact Nat.zero_le _, by first | omega | exact Nat.zero_le _⟩ ?_
  refine lv_if_eq (tgt := 16) hx hb d_M_addDescriptor_4 (by decide) (fun c_2 => ?_) (fun c_2 => ?_)
  · skip
    refine lv_aload_n hx hb d_M_addDescriptor_16 rfl (lv_at hl 0 rfl) ?_
    refine lv_bipush (v := 76) hx hb d_M_addDescriptor_17 (by decide) ?_
    refine go_v (wr := []) (run_V hF (c_M_one g l _ h0 a1 a2 a3 a4 n2 n3 xs md hm 76 (by omega)) k_M_one j_M_79 se_M_M_one (va_recv hK hP (ci := 4) (q0 := 0) rfl rfl) (cw_down G hP hD hS hA [0, 1] rfl rfl) ⟨Nat.le_of_ble_eq_true rfl, Nat.le_of_ble_eq_true rfl⟩ rfl hl.1 (Nat.le_of_ble_eq_true rfl) d_M_addDescriptor_19 ⟨(by first | exact Nat.le_of_ble_eq_true rfl | (dsimp only; omega) | omega), (by first | exact Nat.le_of_ble_eq_true rfl | (dsimp only; omega) | omega)⟩) hP hD hS hA [0, 1] [] rfl rfl rfl (by decide) (fun w1 H locs hp hP hD hS => ?_)
    obtain ⟨md_4, rfl, hm_4, hn_4, hn_4b⟩ := hp
    have hP : va_P (gD g) classes [(h0, .inr (4, [.ref a1, .int (nI (z_M_one xs 76).length), .ref a2, .int n2, .ref a3, .ref a4, .int n3])), (a1, .inl (gI g, 200, .inl md_4))] H := hP
    have hD : va_D A [(h0, .inr (4, [.ref a1, .int (nI (z_M_one xs 76).length), .ref a2, .int n2, .ref a3, .ref a4, .int n3])), (a1, .inl (gI g, 200, .inl md_4))] := hD
    refine lv_aload_n hx hb d_M_addDescriptor_22 rfl (lv_at hl 0 rfl) ?_
    refine va_get (D := gD g) (ci := 4) (v := .int (nI (z_M_one xs 76).length)) (C := R_M) (T := F_M) (N := 7) hx hb hF.2.2.2.2 in_M hF.2.2.2.1 hK hP 0 rfl rfl 1 (by decide) (hF.2.2.2.2 _ fl_M_76) (fun _ h9 => h9) rfl d_M_addDescriptor_23 ?_
    refine lv_istore_n (lv' := [(3, .int (nI (z_M_one xs 76).length)), (0, .ref h0), (1, .int t), (2, .int sl)]) hx hb d_M_addDescriptor_26 rfl hl (by decide) rfl (fun ls hl => ?_)
    refine lv_aload_n hx hb d_M_addDescriptor_27 rfl (lv_at hl 1 rfl) ?_
    refine lv_iload_n hx hb d_M_addDescriptor_28 rfl (lv_at hl 2 rfl) ?_
    refine go_v (wr := []) (run_V hF (c_M_addName g l _ h0 a1 a2 a3 a4 n2 n3 (z_M_one xs 76) md_4 hm_4 t (by omega)) k_M_addName j_M_110 se_M_M_addName (va_recv hK hP (ci := 4) (q0 := 0) rfl rfl) (cw_down G hP hD hS hA [0, 1] rfl rfl) ⟨Nat.le_of_ble_eq_true rfl, Nat.le_of_ble_eq_true rfl⟩ rfl hl.1 (Nat.le_of_ble_eq_true rfl) d_M_addDescriptor_29 ⟨(by first | exact Nat.le_of_ble_eq_true rfl | (dsimp only; omega) | omega), (by first | exact Nat.le_of_ble_eq_true rfl | (dsimp only; omega) | omega)⟩) hP hD hS hA [0, 1] [] rfl rfl rfl (by decide) (fun w1 H locs hp hP hD hS => ?_)
    obtain ⟨md_6, rfl, hm_6, hn_6, hn_6b⟩ := hp
    have hP : va_P (gD g) classes [(h0, .inr (4, [.ref a1, .int (nI (z_M_addName (z_M_one xs 76) t).length), .ref a2, .int n2, .ref a3, .ref a4, .int n3])), (a1, .inl (gI g, 200, .inl md_6))] H := hP
    have hD : va_D A [(h0, .inr (4, [.ref a1, .int (nI (z_M_addName (z_M_one xs 76) t).length), .ref a2, .int n2, .ref a3, .ref a4, .int n3])), (a1, .inl (gI g, 200, .inl md_6))] := hD
    refine lv_iload_n hx hb d_M_addDescriptor_32 rfl (lv_at hl 0 rfl) ?_
    refine lv_istore (lv' := [(4, .int (nI (z_M_one xs 76).length)), (3, .int (nI (z_M_one xs 76).length)), (0, .ref h0), (1, .int t), (2, .int sl)]) hx hb d_M_addDescriptor_33 hl (by decide) rfl (fun ls hl => ?_)
    by_cases c_7 : sl = 0
    · refine lv_iload_n hx hb d_M_addDescriptor_35 rfl (lv_at hl 4 rfl) ?_
      refine lv_if_eq (tgt := 75) hx hb d_M_addDescriptor_36 (by decide) (fun _ => ?_) (fun q => absurd c_7 q)
      refine lv_aload_n hx hb d_M_addDescriptor_75 rfl (lv_at hl 2 rfl) ?_
      refine lv_bipush (v := 59) hx hb d_M_addDescriptor_76 (by decide) ?_
      refine go_v (wr := []) (run_V hF (c_M_one g l _ h0 a1 a2 a3 a4 n2 n3 (z_M_addName (z_M_one xs 76) t) md_6 hm_6 59 (by omega)) k_M_one j_M_79 se_M_M_one (va_recv hK hP (ci := 4) (q0 := 0) rfl rfl) (cw_down G hP hD hS hA [0, 1] rfl rfl) ⟨Nat.le_of_ble_eq_true rfl, Nat.le_of_ble_eq_true rfl⟩ rfl hl.1 (Nat.le_of_ble_eq_true rfl) d_M_addDescriptor_78 ⟨(by first | exact Nat.le_of_ble_eq_true rfl | (dsimp only; omega) | omega), (by first | exact Nat.le_of_ble_eq_true rfl | (dsimp only; omega) | omega)⟩) hP hD hS hA [0, 1] [] rfl rfl rfl (by decide) (fun w1 H locs hp hP hD hS => ?_)
      obtain ⟨md_9, rfl, hm_9, hn_9, hn_9b⟩ := hp
      have hP : va_P (gD g) classes [(h0, .inr (4, [.ref a1, .int (nI (z_M_one (z_M_addName (z_M_one xs 76) t) 59).length), .ref a2, .int n2, .ref a3, .ref a4, .int n3])), (a1, .inl (gI g, 200, .inl md_9))] H := hP
      have hD : va_D A [(h0, .inr (4, [.ref a1, .int (nI (z_M_one (z_M_addName (z_M_one xs 76) t) 59).length), .ref a2, .int n2, .ref a3, .ref a4, .int n3])), (a1, .inl (gI g, 200, .inl md_9))] := hD
      have e : z_M_addDescriptor xs t sl = (z_M_one (z_M_addName (z_M_one xs 76) t) 59) := by rw [z_M_addDescriptor, if_pos c_2, if_pos c_7]
      exact ret_v hx hb hr hlk (hP.sub (ws' := [(h0, .inr (4, [.ref a1, .int (nI (z_M_one (z_M_addName (z_M_one xs 76) t) 59).length), .ref a2, .int n2, .ref a3, .ref a4, .int n3])), (a1, .inl (gI g, 200, .inl md_9))]) [0, 1] rfl) (hD.sub (ws' := [(h0, .inr (4, [.ref a1, .int (nI (z_M_one (z_M_addName (z_M_one xs 76) t) 59).length), .ref a2, .int n2, .ref a3, .ref a4, .int n3])), (a1, .inl (gI g, 200, .inl md_9))]) [0, 1] rfl rfl) hS ⟨md_9, by rw [e], by rw [e]; exact hm_9, by rw [e]; omega, by rw [e]; omega⟩ (by first | exact Nat.le_of_ble_eq_true rfl | (dsimp only; omega) | omega) (by first | exact Nat.le_of_ble_eq_true rfl | (dsimp only; omega) | omega) d_M_addDescriptor_81
    refine lp_M_addDescriptor c_7 hx hb hF hA G (z_M_addName (z_M_one xs 76) t) hm_6.1 (z_M_one xs 76).length (fun md_10 hm_10 H locs ls hP hD hS hl => ?_) ((z_M_addName (z_M_one xs 76) t).length - (z_M_one xs 76).length) (z_M_one xs 76).length _ md_6 (by omega) (by first | rfl | decide) (Nat.le_refl _) (by rw [rpf_0]; exact hm_6) _ _ (hP.sub (ws' := [(h0, .inr (4, [.ref a1, .int (nI (z_M_addName (z_M_one xs 76) t).length), .ref a2, .int n2, .ref a3, .ref a4, .int n3])), (a1, .inl (gI g, 200, .inl md_6))]) [0, 1] rfl) (hD.sub (ws' := [(h0, .inr (4, [.ref a1, .int (nI (z_M_addName (z_M_one xs 76) t).length), .ref a2, .int n2, .ref a3, .ref a4, .int n3])), (a1, .inl (gI g, 200, .inl md_6))]) [0, 1] rfl rfl) hS _ (lv_sub hl [0, 2, 3, 4] rfl)
    have hn_10 := rpf_len (z_M_one xs 76).length (z_M_addName (z_M_one xs 76) t).length 46 47 (z_M_addName (z_M_one xs 76) t) 0
    rw [← hn_10] at hP hD
    have hP : va_P (gD g) classes [(h0, .inr (4, [.ref a1, .int (nI (rpf (z_M_one xs 76).length (z_M_addName (z_M_one xs 76) t).length 46 47 0 (z_M_addName (z_M_one xs 76) t)).length), .ref a2, .int n2, .ref a3, .ref a4, .int n3])), (a1, .inl (gI g, 200, .inl md_10))] H := hP
    have hD : va_D A [(h0, .inr (4, [.ref a1, .int (nI (rpf (z_M_one xs 76).length (z_M_addName (z_M_one xs 76) t).length 46 47 0 (z_M_addName (z_M_one xs 76) t)).length), .ref a2, .int n2, .ref a3, .ref a4, .int n3])), (a1, .inl (gI g, 200, .inl md_10))] := hD
    refine lv_aload_n hx hb d_M_addDescriptor_75 rfl (lv_at hl 0 rfl) ?_
    refine lv_bipush (v := 59) hx hb d_M_addDescriptor_76 (by decide) ?_
    refine go_v (wr := []) (run_V hF (c_M_one g l _ h0 a1 a2 a3 a4 n2 n3 (rpf (z_M_one xs 76).length (z_M_addName (z_M_one xs 76) t).length 46 47 0 (z_M_addName (z_M_one xs 76) t)) md_10 hm_10 59 (by omega)) k_M_one j_M_79 se_M_M_one (va_recv hK hP (ci := 4) (q0 := 0) rfl rfl) (cw_down G hP hD hS hA [0, 1] rfl rfl) ⟨Nat.le_of_ble_eq_true rfl, Nat.le_of_ble_eq_true rfl⟩ rfl hl.1 (Nat.le_of_ble_eq_true rfl) d_M_addDescriptor_78 ⟨(by first | exact Nat.le_of_ble_eq_true rfl | (dsimp only; omega) | omega), (by first | exact Nat.le_of_ble_eq_true rfl | (dsimp only; omega) | omega)⟩) hP hD hS hA [0, 1] [] rfl rfl rfl (by decide) (fun w1 H locs hp hP hD hS => ?_)
    obtain ⟨md_12, rfl, hm_12, hn_12, hn_12b⟩ := hp
    have hP : va_P (gD g) classes [(h0, .inr (4, [.ref a1, .int (nI (z_M_one (rpf (z_M_one xs 76).length (z_M_addName (z_M_one xs 76) t).length 46 47 0 (z_M_addName (z_M_one xs 76) t)) 59).length), .ref a2, .int n2, .ref a3, .ref a4, .int n3])), (a1, .inl (gI g, 200, .inl md_12))] H := hP
    have hD : va_D A [(h0, .inr (4, [.ref a1, .int (nI (z_M_one (rpf (z_M_one xs 76).length (z_M_addName (z_M_one xs 76) t).length 46 47 0 (z_M_addName (z_M_one xs 76) t)) 59).length), .ref a2, .int n2, .ref a3, .ref a4, .int n3])), (a1, .inl (gI g, 200, .inl md_12))] := hD
    have e : z_M_addDescriptor xs t sl = (z_M_one (rpf (z_M_one xs 76).length (z_M_addName (z_M_one xs 76) t).length 46 47 0 (z_M_addName (z_M_one xs 76) t)) 59) := by rw [z_M_addDescriptor, if_pos c_2, if_neg c_7]
    exact ret_v hx hb hr hlk (hP.sub (ws' := [(h0, .inr (4, [.ref a1, .int (nI (z_M_one (rpf (z_M_one xs 76).length (z_M_addName (z_M_one xs 76) t).length 46 47 0 (z_M_addName (z_M_one xs 76) t)) 59).length), .ref a2, .int n2, .ref a3, .ref a4, .int n3])), (a1, .inl (gI g, 200, .inl md_12))]) [0, 1] rfl) (hD.sub (ws' := [(h0, .inr (4, [.ref a1, .int (nI (z_M_one (rpf (z_M_one xs 76).length (z_M_addName (z_M_one xs 76) t).length 46 47 0 (z_M_addName (z_M_one xs 76) t)) 59).length), .ref a2, .int n2, .ref a3, .ref a4, .int n3])), (a1, .inl (gI g, 200, .inl md_12))]) [0, 1] rfl rfl) hS ⟨md_12, by rw [e], by rw [e]; exact hm_12, by rw [e]; omega, by rw [e]; omega⟩ (by first | exact Nat.le_of_ble_eq_true rfl | (dsimp only; omega) | omega) (by first | exact Nat.le_of_ble_eq_true rfl | (dsimp only; omega) | omega) d_M_addDescriptor_81
  · skip
    refine lv_aload_n hx hb d_M_addDescriptor_7 rfl (lv_at hl 0 rfl) ?_
    refine lv_iload_n hx hb d_M_addDescriptor_8 rfl (lv_at hl 1 rfl) ?_
    refine go_i (wr := [(h0, .inr (4, [.ref a1, .int (nI xs.length), .ref a2, .int n2, .ref a3, .ref a4, .int n3])), (a1, .inl (gI g, 200, .inl md))]) (run_S hF (c_M_sign g l _ t (m_prim c_2)) k_M_sign j_M_106 (cw_down G hP hD hS hA [] rfl rfl) ⟨Nat.le_of_ble_eq_true rfl, Nat.le_of_ble_eq_true rfl⟩ rfl hl.1 (Nat.le_of_ble_eq_true rfl) d_M_addDescriptor_9 ⟨(by first | exact Nat.le_of_ble_eq_true rfl | (dsimp only; omega) | omega), (by first | exact Nat.le_of_ble_eq_true rfl | (dsimp only; omega) | omega)⟩) hP hD hS hA [] [0, 1] rfl rfl rfl (by decide) (fun r_13 w1 H locs hp hP hD hS => ?_)
    obtain ⟨rfl, rfl⟩ := hp
    have hP : va_P (gD g) classes [(h0, .inr (4, [.ref a1, .int (nI xs.length), .ref a2, .int n2, .ref a3, .ref a4, .int n3])), (a1, .inl (gI g, 200, .inl md))] H := hP
    have hD : va_D A [(h0, .inr (4, [.ref a1, .int (nI xs.length), .ref a2, .int n2, .ref a3, .ref a4, .int n3])), (a1, .inl (gI g, 200, .inl md))] := hD
    refine go_v (wr := []) (run_V hF (c_M_one g l _ h0 a1 a2 a3 a4 n2 n3 xs md hm (f_M_sign t) (by omega)) k_M_one j_M_79 se_M_M_one (va_recv hK hP (ci := 4) (q0 := 0) rfl rfl) (cw_down G hP hD hS hA [0, 1] rfl rfl) ⟨Nat.le_of_ble_eq_true rfl, Nat.le_of_ble_eq_true rfl⟩ rfl hl.1 (Nat.le_of_ble_eq_true rfl) d_M_addDescriptor_12 ⟨(by first | exact Nat.le_of_ble_eq_true rfl | (dsimp only; omega) | omega), (by first | exact Nat.le_of_ble_eq_true rfl | (dsimp only; omega) | omega)⟩) hP hD hS hA [0, 1] [] rfl rfl rfl (by decide) (fun w1 H locs hp hP hD hS => ?_)
    obtain ⟨md_15, rfl, hm_15, hn_15, hn_15b⟩ := hp
    have hP : va_P (gD g) classes [(h0, .inr (4, [.ref a1, .int (nI (z_M_one xs (f_M_sign t)).length), .ref a2, .int n2, .ref a3, .ref a4, .int n3])), (a1, .inl (gI g, 200, .inl md_15))] H := hP
    have hD : va_D A [(h0, .inr (4, [.ref a1, .int (nI (z_M_one xs (f_M_sign t)).length), .ref a2, .int n2, .ref a3, .ref a4, .int n3])), (a1, .inl (gI g, 200, .inl md_15))] := hD
    have e : z_M_addDescriptor xs t sl = (z_M_one xs (f_M_sign t)) := by rw [z_M_addDescriptor, if_neg c_2]
    exact ret_v hx hb hr hlk (hP.sub (ws' := [(h0, .inr (4, [.ref a1, .int (nI (z_M_one xs (f_M_sign t)).length), .ref a2, .int n2, .ref a3, .ref a4, .int n3])), (a1, .inl (gI g, 200, .inl md_15))]) [0, 1] rfl) (hD.sub (ws' := [(h0, .inr (4, [.ref a1, .int (nI (z_M_one xs (f_M_sign t)).length), .ref a2, .int n2, .ref a3, .ref a4, .int n3])), (a1, .inl (gI g, 200, .inl md_15))]) [0, 1] rfl rfl) hS ⟨md_15, by rw [e], by rw [e]; exact hm_15, by rw [e]; omega, by rw [e]; omega⟩ (by first | exact Nat.le_of_ble_eq_true rfl | (dsimp only; omega) | omega) (by first | exact Nat.le_of_ble_eq_true rfl | (dsimp only; omega) | omega) d_M_addDescriptor_15
def z_M_addWhole (xs : List Int32) (t : Int32) : List Int32 := (if (f_M_levels t) ≤ 0 then (z_M_addName xs (f_M_plain t)) else (if (f_M_levels t) ≤ 1 then (z_M_addDescriptor (z_M_one xs 91) (f_M_plain t) 0) else (z_M_addDescriptor (z_M_one (z_M_one xs 91) 91) (f_M_plain t) 0)))
set_option maxRecDepth 100000 in
theorem k_M_addWhole : ck y_M_addWhole b_M_addWhole 4 (none) 1 (.instanceMethod y_M_addWhole) := ⟨tk_of (List.mem_of_getElem? (i := 712) rfl) rfl, tk_of (List.mem_of_getElem? (i := 711) (by decide +kernel)) rfl, tk_of (List.mem_of_getElem? (i := 43) (by decide +kernel)) rfl, by decide +kernel⟩
theorem j_M_144 : Cond.methodLink R_M 144 y_M_addDescriptor ∈ tk := tk_of (List.mem_of_getElem? (i := 720) (by decide +kernel)) rfl
theorem se_M_M_addDescriptor : Cond.selects R_M y_M_addDescriptor y_M_addDescriptor ∈ tk := tk_of (List.mem_of_getElem? (i := 23) (by decide +kernel)) rfl
set_option maxHeartbeats 4000000 in
set_option maxRecDepth 100000 in
theorem c_M_addWhole (g : gT) (l : Launch) (sz : Nat) (h0 a1 a2 a3 a4 : Nat) (n2 n3 : Int32) (xs : List Int32) (md : Nat → Int32) (hm : mt xs md) (t : Int32) (hlen : xs.length + 71 ≤ 200) (hL : f_M_levels t ≤ 2) : Mg g l y_M_addWhole b_M_addWhole 4 (none) 5 111 1 9 [.ref h0, .int t] [(h0, .inr (4, [.ref a1, .int (nI xs.length), .ref a2, .int n2, .ref a3, .ref a4, .int n3])), (a1, .inl (gI g, 200, .inl md))] sz (qV g (fun w1 => ∃ md' : Nat → Int32, w1 = [(h0, .inr (4, [.ref a1, .int (nI (z_M_addWhole xs t).length), .ref a2, .int n2, .ref a3, .ref a4, .int n3])), (a1, .inl (gI g, 200, .inl md'))] ∧ mt (z_M_addWhole xs t) md' ∧ (z_M_addWhole xs t).length ≤ xs.length + 71 ∧ xs.length ≤ (z_M_addWhole xs t).length)) := by
  refine mg_of (by decide) (Nat.le_of_ble_eq_true rfl) ?_
  intro p e s m below meth c ls A hx hb hF hr hlk hnm hA G hP hD hS hl
  have hK := G.2.1
  have hN := G.1
  have hl : lv_has ls 4 [(0, .ref h0), (1, .int t)] := hl
  refine lv_iload_n hx hb d_M_addWhole_0 rfl (lv_at hl 1 rfl) ?_
  refine pm_callE hF hN (c_M_plain l t) k_M_plain j_M_141 ⟨Nat.le_of_ble_eq_true rfl, Nat.le_of_ble_eq_true rfl⟩ rfl hl.1 (Nat.le_of_ble_eq_true rfl) d_M_addWhole_1 ⟨by first | omega | exact Nat.zero_le _, by first | omega | exact Nat.zero_le _⟩ ?_
  refine lv_istore_n (lv' := [(2, .int (f_M_plain t)), (0, .ref h0), (1, .int t)]) hx hb d_M_addWhole_4 rfl hl (by decide) rfl (fun ls hl => ?_)
  refine lv_iconst (v := 0) hx hb d_M_addWhole_5 (by decide) ?_
  refine lv_istore_n (lv' := [(3, .int 0), (2, .int (f_M_plain t)), (0, .ref h0), (1, .int t)]) hx hb d_M_addWhole_6 rfl hl (by decide) rfl (fun ls hl => ?_)
  refine lv_iload_n hx hb d_M_addWhole_7 rfl (lv_at hl 0 rfl) ?_
  refine lv_iload_n hx hb d_M_addWhole_8 rfl (lv_at hl 3 rfl) ?_
  refine pm_callE hF hN (c_M_levels l t) k_M_levels j_M_113 ⟨Nat.le_of_ble_eq_true rfl, Nat.le_of_ble_eq_true rfl⟩ rfl hl.1 (Nat.le_of_ble_eq_true rfl) d_M_addWhole_9 ⟨by first | omega | exact Nat.zero_le _, by first | omega | exact Nat.zero_le _⟩ ?_
  refine lv_icmp_ge (tgt := 27) hx hb d_M_addWhole_12 (by decide) (fun c_3 => ?_) (fun c_3 => ?_)
  · skip
    refine lv_iload_n hx hb d_M_addWhole_27 rfl (lv_at hl 3 rfl) ?_
    refine pm_callE hF hN (c_M_levels l t) k_M_levels j_M_113 ⟨Nat.le_of_ble_eq_true rfl, Nat.le_of_ble_eq_true rfl⟩ rfl hl.1 (Nat.le_of_ble_eq_true rfl) d_M_addWhole_28 ⟨by first | omega | exact Nat.zero_le _, by first | omega | exact Nat.zero_le _⟩ ?_
    refine lv_if_le (tgt := 43) hx hb d_M_addWhole_31 (by decide) (fun c_5 => ?_) (fun c_5 => ?_)
    · skip
      refine lv_aload_n hx hb d_M_addWhole_43 rfl (lv_at hl 2 rfl) ?_
      refine lv_iload_n hx hb d_M_addWhole_44 rfl (lv_at hl 1 rfl) ?_
      refine go_v (wr := []) (run_V hF (c_M_addName g l _ h0 a1 a2 a3 a4 n2 n3 xs md hm (f_M_plain t) (by omega)) k_M_addName j_M_110 se_M_M_addName (va_recv hK hP (ci := 4) (q0 := 0) rfl rfl) (cw_down G hP hD hS hA [0, 1] rfl rfl) ⟨Nat.le_of_ble_eq_true rfl, Nat.le_of_ble_eq_true rfl⟩ rfl hl.1 (Nat.le_of_ble_eq_true rfl) d_M_addWhole_45 ⟨(by first | exact Nat.le_of_ble_eq_true rfl | (dsimp only; omega) | omega), (by first | exact Nat.le_of_ble_eq_true rfl | (dsimp only; omega) | omega)⟩) hP hD hS hA [0, 1] [] rfl rfl rfl (by decide) (fun w1 H locs hp hP hD hS => ?_)
      obtain ⟨md_7, rfl, hm_7, hn_7, hn_7b⟩ := hp
      have hP : va_P (gD g) classes [(h0, .inr (4, [.ref a1, .int (nI (z_M_addName xs (f_M_plain t)).length), .ref a2, .int n2, .ref a3, .ref a4, .int n3])), (a1, .inl (gI g, 200, .inl md_7))] H := hP
      have hD : va_D A [(h0, .inr (4, [.ref a1, .int (nI (z_M_addName xs (f_M_plain t)).length), .ref a2, .int n2, .ref a3, .ref a4, .int n3])), (a1, .inl (gI g, 200, .inl md_7))] := hD
      have e : z_M_addWhole xs t = (z_M_addName xs (f_M_plain t)) := by rw [z_M_addWhole, if_pos c_3]
      exact ret_v hx hb hr hlk (hP.sub (ws' := [(h0, .inr (4, [.ref a1, .int (nI (z_M_addName xs (f_M_plain t)).length), .ref a2, .int n2, .ref a3, .ref a4, .int n3])), (a1, .inl (gI g, 200, .inl md_7))]) [0, 1] rfl) (hD.sub (ws' := [(h0, .inr (4, [.ref a1, .int (nI (z_M_addName xs (f_M_plain t)).length), .ref a2, .int n2, .ref a3, .ref a4, .int n3])), (a1, .inl (gI g, 200, .inl md_7))]) [0, 1] rfl rfl) hS ⟨md_7, by rw [e], by rw [e]; exact hm_7, by rw [e]; omega, by rw [e]; omega⟩ (by first | exact Nat.le_of_ble_eq_true rfl | (dsimp only; omega) | omega) (by first | exact Nat.le_of_ble_eq_true rfl | (dsimp only; omega) | omega) d_M_addWhole_48
    · exact absurd c_3 c_5
  · skip
    refine lv_aload_n hx hb d_M_addWhole_15 rfl (lv_at hl 2 rfl) ?_
    refine lv_bipush (v := 91) hx hb d_M_addWhole_16 (by decide) ?_
    refine go_v (wr := []) (run_V hF (c_M_one g l _ h0 a1 a2 a3 a4 n2 n3 xs md hm 91 (by omega)) k_M_one j_M_79 se_M_M_one (va_recv hK hP (ci := 4) (q0 := 0) rfl rfl) (cw_down G hP hD hS hA [0, 1] rfl rfl) ⟨Nat.le_of_ble_eq_true rfl, Nat.le_of_ble_eq_true rfl⟩ rfl hl.1 (Nat.le_of_ble_eq_true rfl) d_M_addWhole_18 ⟨(by first | exact Nat.le_of_ble_eq_true rfl | (dsimp only; omega) | omega), (by first | exact Nat.le_of_ble_eq_true rfl | (dsimp only; omega) | omega)⟩) hP hD hS hA [0, 1] [] rfl rfl rfl (by decide) (fun w1 H locs hp hP hD hS => ?_)
    obtain ⟨md_9, rfl, hm_9, hn_9, hn_9b⟩ := hp
    have hP : va_P (gD g) classes [(h0, .inr (4, [.ref a1, .int (nI (z_M_one xs 91).length), .ref a2, .int n2, .ref a3, .ref a4, .int n3])), (a1, .inl (gI g, 200, .inl md_9))] H := hP
    have hD : va_D A [(h0, .inr (4, [.ref a1, .int (nI (z_M_one xs 91).length), .ref a2, .int n2, .ref a3, .ref a4, .int n3])), (a1, .inl (gI g, 200, .inl md_9))] := hD
    refine lv_iinc (v := 1) (lv' := [(3, .int 1), (2, .int (f_M_plain t)), (0, .ref h0), (1, .int t)]) hx hb d_M_addWhole_21 hl (k := 0) rfl (by first | rfl | decide) (by decide) rfl (fun ls hl => ?_)
    refine lv_goto (tgt := 7) hx hb d_M_addWhole_24 (by decide) ?_
    refine lv_iload_n hx hb d_M_addWhole_7 rfl (lv_at hl 0 rfl) ?_
    refine lv_iload_n hx hb d_M_addWhole_8 rfl (lv_at hl 3 rfl) ?_
    refine pm_callE hF hN (c_M_levels l t) k_M_levels j_M_113 ⟨Nat.le_of_ble_eq_true rfl, Nat.le_of_ble_eq_true rfl⟩ rfl hl.1 (Nat.le_of_ble_eq_true rfl) d_M_addWhole_9 ⟨by first | omega | exact Nat.zero_le _, by first | omega | exact Nat.zero_le _⟩ ?_
    refine lv_icmp_ge (tgt := 27) hx hb d_M_addWhole_12 (by decide) (fun c_11 => ?_) (fun c_11 => ?_)
    · skip
      refine lv_iload_n hx hb d_M_addWhole_27 rfl (lv_at hl 3 rfl) ?_
      refine pm_callE hF hN (c_M_levels l t) k_M_levels j_M_113 ⟨Nat.le_of_ble_eq_true rfl, Nat.le_of_ble_eq_true rfl⟩ rfl hl.1 (Nat.le_of_ble_eq_true rfl) d_M_addWhole_28 ⟨by first | omega | exact Nat.zero_le _, by first | omega | exact Nat.zero_le _⟩ ?_
      refine lv_if_le (tgt := 43) hx hb d_M_addWhole_31 (by decide) (fun c_13 => ?_) (fun c_13 => ?_)
      · exact absurd c_13 c_3
      · skip
        refine lv_aload_n hx hb d_M_addWhole_34 rfl (lv_at hl 2 rfl) ?_
        refine lv_iload_n hx hb d_M_addWhole_35 rfl (lv_at hl 1 rfl) ?_
        refine lv_iconst (v := 0) hx hb d_M_addWhole_36 (by decide) ?_
        refine go_v (wr := []) (run_V hF (c_M_addDescriptor g l _ h0 a1 a2 a3 a4 n2 n3 (z_M_one xs 91) md_9 hm_9 (f_M_plain t) 0 (by omega)) k_M_addDescriptor j_M_144 se_M_M_addDescriptor (va_recv hK hP (ci := 4) (q0 := 0) rfl rfl) (cw_down G hP hD hS hA [0, 1] rfl rfl) ⟨Nat.le_of_ble_eq_true rfl, Nat.le_of_ble_eq_true rfl⟩ rfl hl.1 (Nat.le_of_ble_eq_true rfl) d_M_addWhole_37 ⟨(by first | exact Nat.le_of_ble_eq_true rfl | (dsimp only; omega) | omega), (by first | exact Nat.le_of_ble_eq_true rfl | (dsimp only; omega) | omega)⟩) hP hD hS hA [0, 1] [] rfl rfl rfl (by decide) (fun w1 H locs hp hP hD hS => ?_)
        obtain ⟨md_15, rfl, hm_15, hn_15, hn_15b⟩ := hp
        have hP : va_P (gD g) classes [(h0, .inr (4, [.ref a1, .int (nI (z_M_addDescriptor (z_M_one xs 91) (f_M_plain t) 0).length), .ref a2, .int n2, .ref a3, .ref a4, .int n3])), (a1, .inl (gI g, 200, .inl md_15))] H := hP
        have hD : va_D A [(h0, .inr (4, [.ref a1, .int (nI (z_M_addDescriptor (z_M_one xs 91) (f_M_plain t) 0).length), .ref a2, .int n2, .ref a3, .ref a4, .int n3])), (a1, .inl (gI g, 200, .inl md_15))] := hD
        refine lv_goto (tgt := 48) hx hb d_M_addWhole_40 (by decide) ?_
        have e : z_M_addWhole xs t = (z_M_addDescriptor (z_M_one xs 91) (f_M_plain t) 0) := by rw [z_M_addWhole, if_neg c_3, if_pos c_11]
        exact ret_v hx hb hr hlk (hP.sub (ws' := [(h0, .inr (4, [.ref a1, .int (nI (z_M_addDescriptor (z_M_one xs 91) (f_M_plain t) 0).length), .ref a2, .int n2, .ref a3, .ref a4, .int n3])), (a1, .inl (gI g, 200, .inl md_15))]) [0, 1] rfl) (hD.sub (ws' := [(h0, .inr (4, [.ref a1, .int (nI (z_M_addDescriptor (z_M_one xs 91) (f_M_plain t) 0).length), .ref a2, .int n2, .ref a3, .ref a4, .int n3])), (a1, .inl (gI g, 200, .inl md_15))]) [0, 1] rfl rfl) hS ⟨md_15, by rw [e], by rw [e]; exact hm_15, by rw [e]; omega, by rw [e]; omega⟩ (by first | exact Nat.le_of_ble_eq_true rfl | (dsimp only; omega) | omega) (by first | exact Nat.le_of_ble_eq_true rfl | (dsimp only; omega) | omega) d_M_addWhole_48
    · skip
      refine lv_aload_n hx hb d_M_addWhole_15 rfl (lv_at hl 2 rfl) ?_
      refine lv_bipush (v := 91) hx hb d_M_addWhole_16 (by decide) ?_
      refine go_v (wr := []) (run_V hF (c_M_one g l _ h0 a1 a2 a3 a4 n2 n3 (z_M_one xs 91) md_9 hm_9 91 (by omega)) k_M_one j_M_79 se_M_M_one (va_recv hK hP (ci := 4) (q0 := 0) rfl rfl) (cw_down G hP hD hS hA [0, 1] rfl rfl) ⟨Nat.le_of_ble_eq_true rfl, Nat.le_of_ble_eq_true rfl⟩ rfl hl.1 (Nat.le_of_ble_eq_true rfl) d_M_addWhole_18 ⟨(by first | exact Nat.le_of_ble_eq_true rfl | (dsimp only; omega) | omega), (by first | exact Nat.le_of_ble_eq_true rfl | (dsimp only; omega) | omega)⟩) hP hD hS hA [0, 1] [] rfl rfl rfl (by decide) (fun w1 H locs hp hP hD hS => ?_)
      obtain ⟨md_17, rfl, hm_17, hn_17, hn_17b⟩ := hp
      have hP : va_P (gD g) classes [(h0, .inr (4, [.ref a1, .int (nI (z_M_one (z_M_one xs 91) 91).length), .ref a2, .int n2, .ref a3, .ref a4, .int n3])), (a1, .inl (gI g, 200, .inl md_17))] H := hP
      have hD : va_D A [(h0, .inr (4, [.ref a1, .int (nI (z_M_one (z_M_one xs 91) 91).length), .ref a2, .int n2, .ref a3, .ref a4, .int n3])), (a1, .inl (gI g, 200, .inl md_17))] := hD
      refine lv_iinc (v := 2) (lv' := [(3, .int 2), (2, .int (f_M_plain t)), (0, .ref h0), (1, .int t)]) hx hb d_M_addWhole_21 hl (k := 0) rfl (by first | rfl | decide) (by decide) rfl (fun ls hl => ?_)
      refine lv_goto (tgt := 7) hx hb d_M_addWhole_24 (by decide) ?_
      refine lv_iload_n hx hb d_M_addWhole_7 rfl (lv_at hl 0 rfl) ?_
      refine lv_iload_n hx hb d_M_addWhole_8 rfl (lv_at hl 3 rfl) ?_
      refine pm_callE hF hN (c_M_levels l t) k_M_levels j_M_113 ⟨Nat.le_of_ble_eq_true rfl, Nat.le_of_ble_eq_true rfl⟩ rfl hl.1 (Nat.le_of_ble_eq_true rfl) d_M_addWhole_9 ⟨by first | omega | exact Nat.zero_le _, by first | omega | exact Nat.zero_le _⟩ ?_
      refine lv_icmp_ge (tgt := 27) hx hb d_M_addWhole_12 (by decide) (fun c_19 => ?_) (fun c_19 => absurd hL c_19)
      refine lv_iload_n hx hb d_M_addWhole_27 rfl (lv_at hl 3 rfl) ?_
      refine pm_callE hF hN (c_M_levels l t) k_M_levels j_M_113 ⟨Nat.le_of_ble_eq_true rfl, Nat.le_of_ble_eq_true rfl⟩ rfl hl.1 (Nat.le_of_ble_eq_true rfl) d_M_addWhole_28 ⟨by first | omega | exact Nat.zero_le _, by first | omega | exact Nat.zero_le _⟩ ?_
      refine lv_if_le (tgt := 43) hx hb d_M_addWhole_31 (by decide) (fun c_21 => ?_) (fun c_21 => ?_)
      · exact absurd c_21 c_3
      · skip
        refine lv_aload_n hx hb d_M_addWhole_34 rfl (lv_at hl 2 rfl) ?_
        refine lv_iload_n hx hb d_M_addWhole_35 rfl (lv_at hl 1 rfl) ?_
        refine lv_iconst (v := 0) hx hb d_M_addWhole_36 (by decide) ?_
        refine go_v (wr := []) (run_V hF (c_M_addDescriptor g l _ h0 a1 a2 a3 a4 n2 n3 (z_M_one (z_M_one xs 91) 91) md_17 hm_17 (f_M_plain t) 0 (by omega)) k_M_addDescriptor j_M_144 se_M_M_addDescriptor (va_recv hK hP (ci := 4) (q0 := 0) rfl rfl) (cw_down G hP hD hS hA [0, 1] rfl rfl) ⟨Nat.le_of_ble_eq_true rfl, Nat.le_of_ble_eq_true rfl⟩ rfl hl.1 (Nat.le_of_ble_eq_true rfl) d_M_addWhole_37 ⟨(by first | exact Nat.le_of_ble_eq_true rfl | (dsimp only; omega) | omega), (by first | exact Nat.le_of_ble_eq_true rfl | (dsimp only; omega) | omega)⟩) hP hD hS hA [0, 1] [] rfl rfl rfl (by decide) (fun w1 H locs hp hP hD hS => ?_)
        obtain ⟨md_23, rfl, hm_23, hn_23, hn_23b⟩ := hp
        have hP : va_P (gD g) classes [(h0, .inr (4, [.ref a1, .int (nI (z_M_addDescriptor (z_M_one (z_M_one xs 91) 91) (f_M_plain t) 0).length), .ref a2, .int n2, .ref a3, .ref a4, .int n3])), (a1, .inl (gI g, 200, .inl md_23))] H := hP
        have hD : va_D A [(h0, .inr (4, [.ref a1, .int (nI (z_M_addDescriptor (z_M_one (z_M_one xs 91) 91) (f_M_plain t) 0).length), .ref a2, .int n2, .ref a3, .ref a4, .int n3])), (a1, .inl (gI g, 200, .inl md_23))] := hD
        refine lv_goto (tgt := 48) hx hb d_M_addWhole_40 (by decide) ?_
        have e : z_M_addWhole xs t = (z_M_addDescriptor (z_M_one (z_M_one xs 91) 91) (f_M_plain t) 0) := by rw [z_M_addWhole, if_neg c_3, if_neg c_11]
        exact ret_v hx hb hr hlk (hP.sub (ws' := [(h0, .inr (4, [.ref a1, .int (nI (z_M_addDescriptor (z_M_one (z_M_one xs 91) 91) (f_M_plain t) 0).length), .ref a2, .int n2, .ref a3, .ref a4, .int n3])), (a1, .inl (gI g, 200, .inl md_23))]) [0, 1] rfl) (hD.sub (ws' := [(h0, .inr (4, [.ref a1, .int (nI (z_M_addDescriptor (z_M_one (z_M_one xs 91) 91) (f_M_plain t) 0).length), .ref a2, .int n2, .ref a3, .ref a4, .int n3])), (a1, .inl (gI g, 200, .inl md_23))]) [0, 1] rfl rfl) hS ⟨md_23, by rw [e], by rw [e]; exact hm_23, by rw [e]; omega, by rw [e]; omega⟩ (by first | exact Nat.le_of_ble_eq_true rfl | (dsimp only; omega) | omega) (by first | exact Nat.le_of_ble_eq_true rfl | (dsimp only; omega) | omega) d_M_addWhole_48
end
