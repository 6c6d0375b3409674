/-! methods: names, code, words, decode rows (written by a program) -/
def yXS_init : MethodName := ⟨"ParityArray$Supply", "<init>", "()V"⟩
abbrev cXS_init : ByteArray := prog_3_method_1_code
def wsXS_init : List Cond := .code yXS_init cXS_init 1 (none : Option Jvm.ClassFile.FieldType) :: pz_G
theorem tcXS_init : (.code yXS_init cXS_init 1 (none : Option Jvm.ClassFile.FieldType) : Cond) ∈ pz_G := tw_29
theorem dXS_init_0 : decode cXS_init 0 = .ok (.aload_n 0, 1) := by decide +kernel
theorem dXS_init_1 : decode cXS_init 1 = .ok (.invokespecial 1, 3) := by decide +kernel
theorem dXS_init_4 : decode cXS_init 4 = .ok (.aload_n 0, 1) := by decide +kernel
theorem dXS_init_5 : decode cXS_init 5 = .ok (.iconst 1, 1) := by decide +kernel
theorem dXS_init_6 : decode cXS_init 6 = .ok (.putfield 7, 3) := by decide +kernel
theorem dXS_init_9 : decode cXS_init 9 = .ok (.aload_n 0, 1) := by decide +kernel
theorem dXS_init_10 : decode cXS_init 10 = .ok (.iconst 0, 1) := by decide +kernel
theorem dXS_init_11 : decode cXS_init 11 = .ok (.putfield 13, 3) := by decide +kernel
theorem dXS_init_14 : decode cXS_init 14 = .ok (.aload_n 0, 1) := by decide +kernel
theorem dXS_init_15 : decode cXS_init 15 = .ok (.iconst 0, 1) := by decide +kernel
theorem dXS_init_16 : decode cXS_init 16 = .ok (.putfield 16, 3) := by decide +kernel
theorem dXS_init_19 : decode cXS_init 19 = .ok (.aload_n 0, 1) := by decide +kernel
theorem dXS_init_20 : decode cXS_init 20 = .ok (.iconst 0, 1) := by decide +kernel
theorem dXS_init_21 : decode cXS_init 21 = .ok (.putfield 19, 3) := by decide +kernel
theorem dXS_init_24 : decode cXS_init 24 = .ok (.aload_n 0, 1) := by decide +kernel
theorem dXS_init_25 : decode cXS_init 25 = .ok (.iconst 0, 1) := by decide +kernel
theorem dXS_init_26 : decode cXS_init 26 = .ok (.putfield 23, 3) := by decide +kernel
theorem dXS_init_29 : decode cXS_init 29 = .ok (.aload_n 0, 1) := by decide +kernel
theorem dXS_init_30 : decode cXS_init 30 = .ok (.iconst 0, 1) := by decide +kernel
theorem dXS_init_31 : decode cXS_init 31 = .ok (.putfield 26, 3) := by decide +kernel
theorem dXS_init_34 : decode cXS_init 34 = .ok (.aload_n 0, 1) := by decide +kernel
theorem dXS_init_35 : decode cXS_init 35 = .ok (.iconst 0, 1) := by decide +kernel
theorem dXS_init_36 : decode cXS_init 36 = .ok (.putfield 29, 3) := by decide +kernel
theorem dXS_init_39 : decode cXS_init 39 = .ok (.return_, 1) := by decide +kernel
def yXD_init : MethodName := ⟨"ParityArray$Disk", "<init>", "()V"⟩
abbrev cXD_init : ByteArray := prog_2_method_1_code
def wsXD_init : List Cond := .code yXD_init cXD_init 1 (none : Option Jvm.ClassFile.FieldType) :: pz_G
theorem tcXD_init : (.code yXD_init cXD_init 1 (none : Option Jvm.ClassFile.FieldType) : Cond) ∈ pz_G := tw_57
theorem dXD_init_0 : decode cXD_init 0 = .ok (.aload_n 0, 1) := by decide +kernel
theorem dXD_init_1 : decode cXD_init 1 = .ok (.invokespecial 3, 3) := by decide +kernel
theorem dXD_init_4 : decode cXD_init 4 = .ok (.aload_n 0, 1) := by decide +kernel
theorem dXD_init_5 : decode cXD_init 5 = .ok (.sipush 2400, 3) := by decide +kernel
theorem dXD_init_8 : decode cXD_init 8 = .ok (.newarray .long, 2) := by decide +kernel
theorem dXD_init_10 : decode cXD_init 10 = .ok (.putfield 9, 3) := by decide +kernel
theorem dXD_init_13 : decode cXD_init 13 = .ok (.aload_n 0, 1) := by decide +kernel
theorem dXD_init_14 : decode cXD_init 14 = .ok (.bipush 16, 2) := by decide +kernel
theorem dXD_init_16 : decode cXD_init 16 = .ok (.newarray .long, 2) := by decide +kernel
theorem dXD_init_18 : decode cXD_init 18 = .ok (.putfield 15, 3) := by decide +kernel
theorem dXD_init_21 : decode cXD_init 21 = .ok (.aload_n 0, 1) := by decide +kernel
theorem dXD_init_22 : decode cXD_init 22 = .ok (.iconst (-1), 1) := by decide +kernel
theorem dXD_init_23 : decode cXD_init 23 = .ok (.putfield 18, 3) := by decide +kernel
theorem dXD_init_26 : decode cXD_init 26 = .ok (.aload_n 0, 1) := by decide +kernel
theorem dXD_init_27 : decode cXD_init 27 = .ok (.iconst 0, 1) := by decide +kernel
theorem dXD_init_28 : decode cXD_init 28 = .ok (.putfield 22, 3) := by decide +kernel
theorem dXD_init_31 : decode cXD_init 31 = .ok (.aload_n 0, 1) := by decide +kernel
theorem dXD_init_32 : decode cXD_init 32 = .ok (.sipush 150, 3) := by decide +kernel
theorem dXD_init_35 : decode cXD_init 35 = .ok (.putfield 26, 3) := by decide +kernel
theorem dXD_init_38 : decode cXD_init 38 = .ok (.return_, 1) := by decide +kernel
def yXD_isThere : MethodName := ⟨"ParityArray$Disk", "isThere", "(I)Z"⟩
abbrev cXD_isThere : ByteArray := prog_2_method_3_code
def wsXD_isThere : List Cond := .code yXD_isThere cXD_isThere 2 (some .boolean) :: pz_G
theorem tcXD_isThere : (.code yXD_isThere cXD_isThere 2 (some .boolean) : Cond) ∈ pz_G := tw_210
theorem dXD_isThere_0 : decode cXD_isThere 0 = .ok (.iload_n 1, 1) := by decide +kernel
theorem dXD_isThere_1 : decode cXD_isThere 1 = .ok (.aload_n 0, 1) := by decide +kernel
theorem dXD_isThere_2 : decode cXD_isThere 2 = .ok (.getfield 26, 3) := by decide +kernel
theorem dXD_isThere_5 : decode cXD_isThere 5 = .ok (.if_icmp .ge 7, 3) := by decide +kernel
theorem dXD_isThere_8 : decode cXD_isThere 8 = .ok (.iconst 1, 1) := by decide +kernel
theorem dXD_isThere_9 : decode cXD_isThere 9 = .ok (.goto 4, 3) := by decide +kernel
theorem dXD_isThere_12 : decode cXD_isThere 12 = .ok (.iconst 0, 1) := by decide +kernel
theorem dXD_isThere_13 : decode cXD_isThere 13 = .ok (.ireturn, 1) := by decide +kernel
def yXD_longAt : MethodName := ⟨"ParityArray$Disk", "longAt", "(II)J"⟩
abbrev cXD_longAt : ByteArray := prog_2_method_4_code
def wsXD_longAt : List Cond := .code yXD_longAt cXD_longAt 3 (some .long) :: pz_G
theorem tcXD_longAt : (.code yXD_longAt cXD_longAt 3 (some .long) : Cond) ∈ pz_G := tw_214
theorem dXD_longAt_0 : decode cXD_longAt 0 = .ok (.aload_n 0, 1) := by decide +kernel
theorem dXD_longAt_1 : decode cXD_longAt 1 = .ok (.getfield 9, 3) := by decide +kernel
theorem dXD_longAt_4 : decode cXD_longAt 4 = .ok (.iload_n 1, 1) := by decide +kernel
theorem dXD_longAt_5 : decode cXD_longAt 5 = .ok (.bipush 16, 2) := by decide +kernel
theorem dXD_longAt_7 : decode cXD_longAt 7 = .ok (.imul, 1) := by decide +kernel
theorem dXD_longAt_8 : decode cXD_longAt 8 = .ok (.iload_n 2, 1) := by decide +kernel
theorem dXD_longAt_9 : decode cXD_longAt 9 = .ok (.iadd, 1) := by decide +kernel
theorem dXD_longAt_10 : decode cXD_longAt 10 = .ok (.laload, 1) := by decide +kernel
theorem dXD_longAt_11 : decode cXD_longAt 11 = .ok (.lreturn, 1) := by decide +kernel
def yXS_begin : MethodName := ⟨"ParityArray$Supply", "begin", "(Z)V"⟩
abbrev cXS_begin : ByteArray := prog_3_method_4_code
def wsXS_begin : List Cond := .code yXS_begin cXS_begin 2 (none : Option Jvm.ClassFile.FieldType) :: pz_G
theorem tcXS_begin : (.code yXS_begin cXS_begin 2 (none : Option Jvm.ClassFile.FieldType) : Cond) ∈ pz_G := tw_226
theorem dXS_begin_0 : decode cXS_begin 0 = .ok (.aload_n 0, 1) := by decide +kernel
theorem dXS_begin_1 : decode cXS_begin 1 = .ok (.aload_n 0, 1) := by decide +kernel
theorem dXS_begin_2 : decode cXS_begin 2 = .ok (.getfield 13, 3) := by decide +kernel
theorem dXS_begin_5 : decode cXS_begin 5 = .ok (.ifCond .eq 15, 3) := by decide +kernel
theorem dXS_begin_8 : decode cXS_begin 8 = .ok (.aload_n 0, 1) := by decide +kernel
theorem dXS_begin_9 : decode cXS_begin 9 = .ok (.getfield 16, 3) := by decide +kernel
theorem dXS_begin_12 : decode cXS_begin 12 = .ok (.iload_n 1, 1) := by decide +kernel
theorem dXS_begin_13 : decode cXS_begin 13 = .ok (.if_icmp .ne 7, 3) := by decide +kernel
theorem dXS_begin_16 : decode cXS_begin 16 = .ok (.iconst 1, 1) := by decide +kernel
theorem dXS_begin_17 : decode cXS_begin 17 = .ok (.goto 4, 3) := by decide +kernel
theorem dXS_begin_20 : decode cXS_begin 20 = .ok (.iconst 0, 1) := by decide +kernel
theorem dXS_begin_21 : decode cXS_begin 21 = .ok (.putfield 26, 3) := by decide +kernel
theorem dXS_begin_24 : decode cXS_begin 24 = .ok (.aload_n 0, 1) := by decide +kernel
theorem dXS_begin_25 : decode cXS_begin 25 = .ok (.iconst 0, 1) := by decide +kernel
theorem dXS_begin_26 : decode cXS_begin 26 = .ok (.putfield 29, 3) := by decide +kernel
theorem dXS_begin_29 : decode cXS_begin 29 = .ok (.return_, 1) := by decide +kernel
def yXS_letThrough : MethodName := ⟨"ParityArray$Supply", "letThrough", "(I)I"⟩
abbrev cXS_letThrough : ByteArray := prog_3_method_5_code
def wsXS_letThrough : List Cond := .code yXS_letThrough cXS_letThrough 2 (some .int) :: pz_G
theorem tcXS_letThrough : (.code yXS_letThrough cXS_letThrough 2 (some .int) : Cond) ∈ pz_G := tw_234
theorem dXS_letThrough_0 : decode cXS_letThrough 0 = .ok (.aload_n 0, 1) := by decide +kernel
theorem dXS_letThrough_1 : decode cXS_letThrough 1 = .ok (.getfield 7, 3) := by decide +kernel
theorem dXS_letThrough_4 : decode cXS_letThrough 4 = .ok (.ifCond .ne 5, 3) := by decide +kernel
theorem dXS_letThrough_7 : decode cXS_letThrough 7 = .ok (.iconst 0, 1) := by decide +kernel
theorem dXS_letThrough_8 : decode cXS_letThrough 8 = .ok (.ireturn, 1) := by decide +kernel
theorem dXS_letThrough_9 : decode cXS_letThrough 9 = .ok (.aload_n 0, 1) := by decide +kernel
theorem dXS_letThrough_10 : decode cXS_letThrough 10 = .ok (.getfield 26, 3) := by decide +kernel
theorem dXS_letThrough_13 : decode cXS_letThrough 13 = .ok (.ifCond .eq 28, 3) := by decide +kernel
theorem dXS_letThrough_16 : decode cXS_letThrough 16 = .ok (.aload_n 0, 1) := by decide +kernel
theorem dXS_letThrough_17 : decode cXS_letThrough 17 = .ok (.getfield 29, 3) := by decide +kernel
theorem dXS_letThrough_20 : decode cXS_letThrough 20 = .ok (.aload_n 0, 1) := by decide +kernel
theorem dXS_letThrough_21 : decode cXS_letThrough 21 = .ok (.getfield 19, 3) := by decide +kernel
theorem dXS_letThrough_24 : decode cXS_letThrough 24 = .ok (.if_icmp .ne 17, 3) := by decide +kernel
theorem dXS_letThrough_27 : decode cXS_letThrough 27 = .ok (.aload_n 0, 1) := by decide +kernel
theorem dXS_letThrough_28 : decode cXS_letThrough 28 = .ok (.iconst 0, 1) := by decide +kernel
theorem dXS_letThrough_29 : decode cXS_letThrough 29 = .ok (.putfield 7, 3) := by decide +kernel
theorem dXS_letThrough_32 : decode cXS_letThrough 32 = .ok (.aload_n 0, 1) := by decide +kernel
theorem dXS_letThrough_33 : decode cXS_letThrough 33 = .ok (.getfield 23, 3) := by decide +kernel
theorem dXS_letThrough_36 : decode cXS_letThrough 36 = .ok (.iload_n 1, 1) := by decide +kernel
theorem dXS_letThrough_37 : decode cXS_letThrough 37 = .ok (.invokestatic 32, 3) := by decide +kernel
theorem dXS_letThrough_40 : decode cXS_letThrough 40 = .ok (.ireturn, 1) := by decide +kernel
theorem dXS_letThrough_41 : decode cXS_letThrough 41 = .ok (.aload_n 0, 1) := by decide +kernel
theorem dXS_letThrough_42 : decode cXS_letThrough 42 = .ok (.dup, 1) := by decide +kernel
theorem dXS_letThrough_43 : decode cXS_letThrough 43 = .ok (.getfield 29, 3) := by decide +kernel
theorem dXS_letThrough_46 : decode cXS_letThrough 46 = .ok (.iconst 1, 1) := by decide +kernel
theorem dXS_letThrough_47 : decode cXS_letThrough 47 = .ok (.iadd, 1) := by decide +kernel
theorem dXS_letThrough_48 : decode cXS_letThrough 48 = .ok (.putfield 29, 3) := by decide +kernel
theorem dXS_letThrough_51 : decode cXS_letThrough 51 = .ok (.iload_n 1, 1) := by decide +kernel
theorem dXS_letThrough_52 : decode cXS_letThrough 52 = .ok (.ireturn, 1) := by decide +kernel
def yXD_writeRecord : MethodName := ⟨"ParityArray$Disk", "writeRecord", "(I[JI)V"⟩
abbrev cXD_writeRecord : ByteArray := prog_2_method_6_code
def wsXD_writeRecord : List Cond := .code yXD_writeRecord cXD_writeRecord 4 (none : Option Jvm.ClassFile.FieldType) :: pz_G
theorem tcXD_writeRecord : (.code yXD_writeRecord cXD_writeRecord 4 (none : Option Jvm.ClassFile.FieldType) : Cond) ∈ pz_G := tw_241
theorem dXD_writeRecord_0 : decode cXD_writeRecord 0 = .ok (.iload_n 3, 1) := by decide +kernel
theorem dXD_writeRecord_1 : decode cXD_writeRecord 1 = .ok (.sipush 136, 3) := by decide +kernel
theorem dXD_writeRecord_4 : decode cXD_writeRecord 4 = .ok (.if_icmp .ge 9, 3) := by decide +kernel
theorem dXD_writeRecord_7 : decode cXD_writeRecord 7 = .ok (.aload_n 0, 1) := by decide +kernel
theorem dXD_writeRecord_8 : decode cXD_writeRecord 8 = .ok (.iconst (-1), 1) := by decide +kernel
theorem dXD_writeRecord_9 : decode cXD_writeRecord 9 = .ok (.putfield 18, 3) := by decide +kernel
theorem dXD_writeRecord_12 : decode cXD_writeRecord 12 = .ok (.return_, 1) := by decide +kernel
theorem dXD_writeRecord_13 : decode cXD_writeRecord 13 = .ok (.aload_n 2, 1) := by decide +kernel
theorem dXD_writeRecord_14 : decode cXD_writeRecord 14 = .ok (.iconst 0, 1) := by decide +kernel
theorem dXD_writeRecord_15 : decode cXD_writeRecord 15 = .ok (.aload_n 0, 1) := by decide +kernel
theorem dXD_writeRecord_16 : decode cXD_writeRecord 16 = .ok (.getfield 15, 3) := by decide +kernel
theorem dXD_writeRecord_19 : decode cXD_writeRecord 19 = .ok (.iconst 0, 1) := by decide +kernel
theorem dXD_writeRecord_20 : decode cXD_writeRecord 20 = .ok (.bipush 16, 2) := by decide +kernel
theorem dXD_writeRecord_22 : decode cXD_writeRecord 22 = .ok (.invokestatic 35, 3) := by decide +kernel
theorem dXD_writeRecord_25 : decode cXD_writeRecord 25 = .ok (.aload_n 0, 1) := by decide +kernel
theorem dXD_writeRecord_26 : decode cXD_writeRecord 26 = .ok (.iload_n 1, 1) := by decide +kernel
theorem dXD_writeRecord_27 : decode cXD_writeRecord 27 = .ok (.putfield 18, 3) := by decide +kernel
theorem dXD_writeRecord_30 : decode cXD_writeRecord 30 = .ok (.return_, 1) := by decide +kernel
def yXD_writeRow : MethodName := ⟨"ParityArray$Disk", "writeRow", "(I[JI)V"⟩
abbrev cXD_writeRow : ByteArray := prog_2_method_7_code
def wsXD_writeRow : List Cond := .code yXD_writeRow cXD_writeRow 9 (none : Option Jvm.ClassFile.FieldType) :: pz_G
theorem tcXD_writeRow : (.code yXD_writeRow cXD_writeRow 9 (none : Option Jvm.ClassFile.FieldType) : Cond) ∈ pz_G := tw_248
theorem dXD_writeRow_0 : decode cXD_writeRow 0 = .ok (.iload_n 1, 1) := by decide +kernel
theorem dXD_writeRow_1 : decode cXD_writeRow 1 = .ok (.bipush 16, 2) := by decide +kernel
theorem dXD_writeRow_3 : decode cXD_writeRow 3 = .ok (.imul, 1) := by decide +kernel
theorem dXD_writeRow_4 : decode cXD_writeRow 4 = .ok (.istore 4, 2) := by decide +kernel
theorem dXD_writeRow_6 : decode cXD_writeRow 6 = .ok (.iload_n 3, 1) := by decide +kernel
theorem dXD_writeRow_7 : decode cXD_writeRow 7 = .ok (.bipush 8, 2) := by decide +kernel
theorem dXD_writeRow_9 : decode cXD_writeRow 9 = .ok (.idiv, 1) := by decide +kernel
theorem dXD_writeRow_10 : decode cXD_writeRow 10 = .ok (.istore 5, 2) := by decide +kernel
theorem dXD_writeRow_12 : decode cXD_writeRow 12 = .ok (.iload_n 3, 1) := by decide +kernel
theorem dXD_writeRow_13 : decode cXD_writeRow 13 = .ok (.bipush 8, 2) := by decide +kernel
theorem dXD_writeRow_15 : decode cXD_writeRow 15 = .ok (.irem, 1) := by decide +kernel
theorem dXD_writeRow_16 : decode cXD_writeRow 16 = .ok (.istore 6, 2) := by decide +kernel
theorem dXD_writeRow_18 : decode cXD_writeRow 18 = .ok (.aload_n 2, 1) := by decide +kernel
theorem dXD_writeRow_19 : decode cXD_writeRow 19 = .ok (.iconst 0, 1) := by decide +kernel
theorem dXD_writeRow_20 : decode cXD_writeRow 20 = .ok (.aload_n 0, 1) := by decide +kernel
theorem dXD_writeRow_21 : decode cXD_writeRow 21 = .ok (.getfield 9, 3) := by decide +kernel
theorem dXD_writeRow_24 : decode cXD_writeRow 24 = .ok (.iload 4, 2) := by decide +kernel
theorem dXD_writeRow_26 : decode cXD_writeRow 26 = .ok (.iload 5, 2) := by decide +kernel
theorem dXD_writeRow_28 : decode cXD_writeRow 28 = .ok (.invokestatic 35, 3) := by decide +kernel
theorem dXD_writeRow_31 : decode cXD_writeRow 31 = .ok (.iload 6, 2) := by decide +kernel
theorem dXD_writeRow_33 : decode cXD_writeRow 33 = .ok (.ifCond .le 49, 3) := by decide +kernel
theorem dXD_writeRow_36 : decode cXD_writeRow 36 = .ok (.ldc2_w 41, 3) := by decide +kernel
theorem dXD_writeRow_39 : decode cXD_writeRow 39 = .ok (.iload 6, 2) := by decide +kernel
theorem dXD_writeRow_41 : decode cXD_writeRow 41 = .ok (.bipush 8, 2) := by decide +kernel
theorem dXD_writeRow_43 : decode cXD_writeRow 43 = .ok (.imul, 1) := by decide +kernel
theorem dXD_writeRow_44 : decode cXD_writeRow 44 = .ok (.lushr, 1) := by decide +kernel
theorem dXD_writeRow_45 : decode cXD_writeRow 45 = .ok (.lstore 7, 2) := by decide +kernel
theorem dXD_writeRow_47 : decode cXD_writeRow 47 = .ok (.aload_n 0, 1) := by decide +kernel
theorem dXD_writeRow_48 : decode cXD_writeRow 48 = .ok (.getfield 9, 3) := by decide +kernel
theorem dXD_writeRow_51 : decode cXD_writeRow 51 = .ok (.iload 4, 2) := by decide +kernel
theorem dXD_writeRow_53 : decode cXD_writeRow 53 = .ok (.iload 5, 2) := by decide +kernel
theorem dXD_writeRow_55 : decode cXD_writeRow 55 = .ok (.iadd, 1) := by decide +kernel
theorem dXD_writeRow_56 : decode cXD_writeRow 56 = .ok (.aload_n 2, 1) := by decide +kernel
theorem dXD_writeRow_57 : decode cXD_writeRow 57 = .ok (.iload 5, 2) := by decide +kernel
theorem dXD_writeRow_59 : decode cXD_writeRow 59 = .ok (.laload, 1) := by decide +kernel
theorem dXD_writeRow_60 : decode cXD_writeRow 60 = .ok (.lload 7, 2) := by decide +kernel
theorem dXD_writeRow_62 : decode cXD_writeRow 62 = .ok (.ldc2_w 41, 3) := by decide +kernel
theorem dXD_writeRow_65 : decode cXD_writeRow 65 = .ok (.lxor, 1) := by decide +kernel
theorem dXD_writeRow_66 : decode cXD_writeRow 66 = .ok (.land, 1) := by decide +kernel
theorem dXD_writeRow_67 : decode cXD_writeRow 67 = .ok (.aload_n 0, 1) := by decide +kernel
theorem dXD_writeRow_68 : decode cXD_writeRow 68 = .ok (.getfield 9, 3) := by decide +kernel
theorem dXD_writeRow_71 : decode cXD_writeRow 71 = .ok (.iload 4, 2) := by decide +kernel
theorem dXD_writeRow_73 : decode cXD_writeRow 73 = .ok (.iload 5, 2) := by decide +kernel
theorem dXD_writeRow_75 : decode cXD_writeRow 75 = .ok (.iadd, 1) := by decide +kernel
theorem dXD_writeRow_76 : decode cXD_writeRow 76 = .ok (.laload, 1) := by decide +kernel
theorem dXD_writeRow_77 : decode cXD_writeRow 77 = .ok (.lload 7, 2) := by decide +kernel
theorem dXD_writeRow_79 : decode cXD_writeRow 79 = .ok (.land, 1) := by decide +kernel
theorem dXD_writeRow_80 : decode cXD_writeRow 80 = .ok (.lor, 1) := by decide +kernel
theorem dXD_writeRow_81 : decode cXD_writeRow 81 = .ok (.lastore, 1) := by decide +kernel
theorem dXD_writeRow_82 : decode cXD_writeRow 82 = .ok (.return_, 1) := by decide +kernel
def yXS_end : MethodName := ⟨"ParityArray$Supply", "end", "()V"⟩
abbrev cXS_end : ByteArray := prog_3_method_6_code
def wsXS_end : List Cond := .code yXS_end cXS_end 1 (none : Option Jvm.ClassFile.FieldType) :: pz_G
theorem tcXS_end : (.code yXS_end cXS_end 1 (none : Option Jvm.ClassFile.FieldType) : Cond) ∈ pz_G := tw_253
theorem dXS_end_0 : decode cXS_end 0 = .ok (.aload_n 0, 1) := by decide +kernel
theorem dXS_end_1 : decode cXS_end 1 = .ok (.getfield 26, 3) := by decide +kernel
theorem dXS_end_4 : decode cXS_end 4 = .ok (.ifCond .eq 18, 3) := by decide +kernel
theorem dXS_end_7 : decode cXS_end 7 = .ok (.aload_n 0, 1) := by decide +kernel
theorem dXS_end_8 : decode cXS_end 8 = .ok (.iconst 0, 1) := by decide +kernel
theorem dXS_end_9 : decode cXS_end 9 = .ok (.putfield 7, 3) := by decide +kernel
theorem dXS_end_12 : decode cXS_end 12 = .ok (.aload_n 0, 1) := by decide +kernel
theorem dXS_end_13 : decode cXS_end 13 = .ok (.iconst 0, 1) := by decide +kernel
theorem dXS_end_14 : decode cXS_end 14 = .ok (.putfield 13, 3) := by decide +kernel
theorem dXS_end_17 : decode cXS_end 17 = .ok (.aload_n 0, 1) := by decide +kernel
theorem dXS_end_18 : decode cXS_end 18 = .ok (.iconst 0, 1) := by decide +kernel
theorem dXS_end_19 : decode cXS_end 19 = .ok (.putfield 26, 3) := by decide +kernel
theorem dXS_end_22 : decode cXS_end 22 = .ok (.return_, 1) := by decide +kernel
def yXD_isWell : MethodName := ⟨"ParityArray$Disk", "isWell", "()Z"⟩
abbrev cXD_isWell : ByteArray := prog_2_method_2_code
def wsXD_isWell : List Cond := .code yXD_isWell cXD_isWell 1 (some .boolean) :: pz_G
theorem tcXD_isWell : (.code yXD_isWell cXD_isWell 1 (some .boolean) : Cond) ∈ pz_G := tw_292
theorem dXD_isWell_0 : decode cXD_isWell 0 = .ok (.aload_n 0, 1) := by decide +kernel
theorem dXD_isWell_1 : decode cXD_isWell 1 = .ok (.getfield 26, 3) := by decide +kernel
theorem dXD_isWell_4 : decode cXD_isWell 4 = .ok (.sipush 150, 3) := by decide +kernel
theorem dXD_isWell_7 : decode cXD_isWell 7 = .ok (.if_icmp .ne 7, 3) := by decide +kernel
theorem dXD_isWell_10 : decode cXD_isWell 10 = .ok (.iconst 1, 1) := by decide +kernel
theorem dXD_isWell_11 : decode cXD_isWell 11 = .ok (.goto 4, 3) := by decide +kernel
theorem dXD_isWell_14 : decode cXD_isWell 14 = .ok (.iconst 0, 1) := by decide +kernel
theorem dXD_isWell_15 : decode cXD_isWell 15 = .ok (.ireturn, 1) := by decide +kernel
def yXD_loseAll : MethodName := ⟨"ParityArray$Disk", "loseAll", "()V"⟩
abbrev cXD_loseAll : ByteArray := prog_2_method_5_code
def wsXD_loseAll : List Cond := .code yXD_loseAll cXD_loseAll 1 (none : Option Jvm.ClassFile.FieldType) :: pz_G
theorem tcXD_loseAll : (.code yXD_loseAll cXD_loseAll 1 (none : Option Jvm.ClassFile.FieldType) : Cond) ∈ pz_G := tw_297
theorem dXD_loseAll_0 : decode cXD_loseAll 0 = .ok (.aload_n 0, 1) := by decide +kernel
theorem dXD_loseAll_1 : decode cXD_loseAll 1 = .ok (.getfield 9, 3) := by decide +kernel
theorem dXD_loseAll_4 : decode cXD_loseAll 4 = .ok (.lconst 0, 1) := by decide +kernel
theorem dXD_loseAll_5 : decode cXD_loseAll 5 = .ok (.invokestatic 29, 3) := by decide +kernel
theorem dXD_loseAll_8 : decode cXD_loseAll 8 = .ok (.aload_n 0, 1) := by decide +kernel
theorem dXD_loseAll_9 : decode cXD_loseAll 9 = .ok (.iconst (-1), 1) := by decide +kernel
theorem dXD_loseAll_10 : decode cXD_loseAll 10 = .ok (.putfield 18, 3) := by decide +kernel
theorem dXD_loseAll_13 : decode cXD_loseAll 13 = .ok (.aload_n 0, 1) := by decide +kernel
theorem dXD_loseAll_14 : decode cXD_loseAll 14 = .ok (.iconst 1, 1) := by decide +kernel
theorem dXD_loseAll_15 : decode cXD_loseAll 15 = .ok (.putfield 22, 3) := by decide +kernel
theorem dXD_loseAll_18 : decode cXD_loseAll 18 = .ok (.aload_n 0, 1) := by decide +kernel
theorem dXD_loseAll_19 : decode cXD_loseAll 19 = .ok (.iconst 0, 1) := by decide +kernel
theorem dXD_loseAll_20 : decode cXD_loseAll 20 = .ok (.putfield 26, 3) := by decide +kernel
theorem dXD_loseAll_23 : decode cXD_loseAll 23 = .ok (.return_, 1) := by decide +kernel
def yXA_fill : MethodName := ⟨"java/util/Arrays", "fill", "([JJ)V"⟩
abbrev cXA_fill : ByteArray := prog_16_method_101_code
def wsXA_fill : List Cond := .code yXA_fill cXA_fill 5 (none : Option Jvm.ClassFile.FieldType) :: pz_G
theorem tcXA_fill : (.code yXA_fill cXA_fill 5 (none : Option Jvm.ClassFile.FieldType) : Cond) ∈ pz_G := tw_300
theorem dXA_fill_0 : decode cXA_fill 0 = .ok (.iconst 0, 1) := by decide +kernel
theorem dXA_fill_1 : decode cXA_fill 1 = .ok (.istore_n 3, 1) := by decide +kernel
theorem dXA_fill_2 : decode cXA_fill 2 = .ok (.aload_n 0, 1) := by decide +kernel
theorem dXA_fill_3 : decode cXA_fill 3 = .ok (.arraylength, 1) := by decide +kernel
theorem dXA_fill_4 : decode cXA_fill 4 = .ok (.istore 4, 2) := by decide +kernel
theorem dXA_fill_6 : decode cXA_fill 6 = .ok (.iload_n 3, 1) := by decide +kernel
theorem dXA_fill_7 : decode cXA_fill 7 = .ok (.iload 4, 2) := by decide +kernel
theorem dXA_fill_9 : decode cXA_fill 9 = .ok (.if_icmp .ge 13, 3) := by decide +kernel
theorem dXA_fill_12 : decode cXA_fill 12 = .ok (.aload_n 0, 1) := by decide +kernel
theorem dXA_fill_13 : decode cXA_fill 13 = .ok (.iload_n 3, 1) := by decide +kernel
theorem dXA_fill_14 : decode cXA_fill 14 = .ok (.lload_n 1, 1) := by decide +kernel
theorem dXA_fill_15 : decode cXA_fill 15 = .ok (.lastore, 1) := by decide +kernel
theorem dXA_fill_16 : decode cXA_fill 16 = .ok (.iinc 3 1, 3) := by decide +kernel
theorem dXA_fill_19 : decode cXA_fill 19 = .ok (.goto (-13), 3) := by decide +kernel
theorem dXA_fill_22 : decode cXA_fill 22 = .ok (.return_, 1) := by decide +kernel
def yXS_plan : MethodName := ⟨"ParityArray$Supply", "plan", "(IIZ)V"⟩
abbrev cXS_plan : ByteArray := prog_3_method_2_code
def wsXS_plan : List Cond := .code yXS_plan cXS_plan 4 (none : Option Jvm.ClassFile.FieldType) :: pz_G
theorem tcXS_plan : (.code yXS_plan cXS_plan 4 (none : Option Jvm.ClassFile.FieldType) : Cond) ∈ pz_G := tw_349
theorem dXS_plan_0 : decode cXS_plan 0 = .ok (.aload_n 0, 1) := by decide +kernel
theorem dXS_plan_1 : decode cXS_plan 1 = .ok (.iconst 1, 1) := by decide +kernel
theorem dXS_plan_2 : decode cXS_plan 2 = .ok (.putfield 13, 3) := by decide +kernel
theorem dXS_plan_5 : decode cXS_plan 5 = .ok (.aload_n 0, 1) := by decide +kernel
theorem dXS_plan_6 : decode cXS_plan 6 = .ok (.iload_n 3, 1) := by decide +kernel
theorem dXS_plan_7 : decode cXS_plan 7 = .ok (.putfield 16, 3) := by decide +kernel
theorem dXS_plan_10 : decode cXS_plan 10 = .ok (.aload_n 0, 1) := by decide +kernel
theorem dXS_plan_11 : decode cXS_plan 11 = .ok (.iload_n 1, 1) := by decide +kernel
theorem dXS_plan_12 : decode cXS_plan 12 = .ok (.putfield 19, 3) := by decide +kernel
theorem dXS_plan_15 : decode cXS_plan 15 = .ok (.aload_n 0, 1) := by decide +kernel
theorem dXS_plan_16 : decode cXS_plan 16 = .ok (.iload_n 2, 1) := by decide +kernel
theorem dXS_plan_17 : decode cXS_plan 17 = .ok (.putfield 23, 3) := by decide +kernel
theorem dXS_plan_20 : decode cXS_plan 20 = .ok (.return_, 1) := by decide +kernel
def yXS_forgetPlan : MethodName := ⟨"ParityArray$Supply", "forgetPlan", "()V"⟩
abbrev cXS_forgetPlan : ByteArray := prog_3_method_3_code
def wsXS_forgetPlan : List Cond := .code yXS_forgetPlan cXS_forgetPlan 1 (none : Option Jvm.ClassFile.FieldType) :: pz_G
theorem tcXS_forgetPlan : (.code yXS_forgetPlan cXS_forgetPlan 1 (none : Option Jvm.ClassFile.FieldType) : Cond) ∈ pz_G := tw_364
theorem dXS_forgetPlan_0 : decode cXS_forgetPlan 0 = .ok (.aload_n 0, 1) := by decide +kernel
theorem dXS_forgetPlan_1 : decode cXS_forgetPlan 1 = .ok (.iconst 0, 1) := by decide +kernel
theorem dXS_forgetPlan_2 : decode cXS_forgetPlan 2 = .ok (.putfield 13, 3) := by decide +kernel
theorem dXS_forgetPlan_5 : decode cXS_forgetPlan 5 = .ok (.return_, 1) := by decide +kernel
