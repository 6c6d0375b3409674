/-! methods: names, code, words, decode rows (written by a program) -/
def yXP_init : MethodName := ⟨"ParityArray", "<init>", "()V"⟩
abbrev cXP_init : ByteArray := prog_1_method_1_code
def wsXP_init : List Cond := .code yXP_init cXP_init 2 (none : Option Jvm.ClassFile.FieldType) :: pz_G
theorem tcXP_init : (.code yXP_init cXP_init 2 (none : Option Jvm.ClassFile.FieldType) : Cond) ∈ pz_G := tw_19
theorem dXP_init_0 : decode cXP_init 0 = .ok (.aload_n 0, 1) := by decide +kernel
theorem dXP_init_1 : decode cXP_init 1 = .ok (.invokespecial 1, 3) := by decide +kernel
theorem dXP_init_4 : decode cXP_init 4 = .ok (.aload_n 0, 1) := by decide +kernel
theorem dXP_init_5 : decode cXP_init 5 = .ok (.iconst 5, 1) := by decide +kernel
theorem dXP_init_6 : decode cXP_init 6 = .ok (.anewarray 9, 3) := by decide +kernel
theorem dXP_init_9 : decode cXP_init 9 = .ok (.putfield 11, 3) := by decide +kernel
theorem dXP_init_12 : decode cXP_init 12 = .ok (.aload_n 0, 1) := by decide +kernel
theorem dXP_init_13 : decode cXP_init 13 = .ok (.new 15, 3) := by decide +kernel
theorem dXP_init_16 : decode cXP_init 16 = .ok (.dup, 1) := by decide +kernel
theorem dXP_init_17 : decode cXP_init 17 = .ok (.invokespecial 17, 3) := by decide +kernel
theorem dXP_init_20 : decode cXP_init 20 = .ok (.putfield 18, 3) := by decide +kernel
theorem dXP_init_23 : decode cXP_init 23 = .ok (.aload_n 0, 1) := by decide +kernel
theorem dXP_init_24 : decode cXP_init 24 = .ok (.bipush 16, 2) := by decide +kernel
theorem dXP_init_26 : decode cXP_init 26 = .ok (.newarray .long, 2) := by decide +kernel
theorem dXP_init_28 : decode cXP_init 28 = .ok (.putfield 22, 3) := by decide +kernel
theorem dXP_init_31 : decode cXP_init 31 = .ok (.aload_n 0, 1) := by decide +kernel
theorem dXP_init_32 : decode cXP_init 32 = .ok (.bipush 16, 2) := by decide +kernel
theorem dXP_init_34 : decode cXP_init 34 = .ok (.newarray .long, 2) := by decide +kernel
theorem dXP_init_36 : decode cXP_init 36 = .ok (.putfield 26, 3) := by decide +kernel
theorem dXP_init_39 : decode cXP_init 39 = .ok (.aload_n 0, 1) := by decide +kernel
theorem dXP_init_40 : decode cXP_init 40 = .ok (.bipush 16, 2) := by decide +kernel
theorem dXP_init_42 : decode cXP_init 42 = .ok (.newarray .long, 2) := by decide +kernel
theorem dXP_init_44 : decode cXP_init 44 = .ok (.putfield 29, 3) := by decide +kernel
theorem dXP_init_47 : decode cXP_init 47 = .ok (.iconst 0, 1) := by decide +kernel
theorem dXP_init_48 : decode cXP_init 48 = .ok (.istore_n 1, 1) := by decide +kernel
theorem dXP_init_49 : decode cXP_init 49 = .ok (.iload_n 1, 1) := by decide +kernel
theorem dXP_init_50 : decode cXP_init 50 = .ok (.iconst 5, 1) := by decide +kernel
theorem dXP_init_51 : decode cXP_init 51 = .ok (.if_icmp .ge 22, 3) := by decide +kernel
theorem dXP_init_54 : decode cXP_init 54 = .ok (.aload_n 0, 1) := by decide +kernel
theorem dXP_init_55 : decode cXP_init 55 = .ok (.getfield 11, 3) := by decide +kernel
theorem dXP_init_58 : decode cXP_init 58 = .ok (.iload_n 1, 1) := by decide +kernel
theorem dXP_init_59 : decode cXP_init 59 = .ok (.new 9, 3) := by decide +kernel
theorem dXP_init_62 : decode cXP_init 62 = .ok (.dup, 1) := by decide +kernel
theorem dXP_init_63 : decode cXP_init 63 = .ok (.invokespecial 32, 3) := by decide +kernel
theorem dXP_init_66 : decode cXP_init 66 = .ok (.aastore, 1) := by decide +kernel
theorem dXP_init_67 : decode cXP_init 67 = .ok (.iinc 1 1, 3) := by decide +kernel
theorem dXP_init_70 : decode cXP_init 70 = .ok (.goto (-21), 3) := by decide +kernel
theorem dXP_init_73 : decode cXP_init 73 = .ok (.return_, 1) := by decide +kernel
def yXP_set : MethodName := ⟨"ParityArray", "set", "(IIJ)J"⟩
abbrev cXP_set : ByteArray := prog_1_method_2_code
def wsXP_set : List Cond := .code yXP_set cXP_set 7 (some .long) :: pz_G
theorem tcXP_set : (.code yXP_set cXP_set 7 (some .long) : Cond) ∈ pz_G := tw_105
theorem dXP_set_0 : decode cXP_set 0 = .ok (.aload_n 0, 1) := by decide +kernel
theorem dXP_set_1 : decode cXP_set 1 = .ok (.getfield 18, 3) := by decide +kernel
theorem dXP_set_4 : decode cXP_set 4 = .ok (.getfield 33, 3) := by decide +kernel
theorem dXP_set_7 : decode cXP_set 7 = .ok (.ifCond .ne 13, 3) := by decide +kernel
theorem dXP_set_10 : decode cXP_set 10 = .ok (.new 37, 3) := by decide +kernel
theorem dXP_set_13 : decode cXP_set 13 = .ok (.dup, 1) := by decide +kernel
theorem dXP_set_14 : decode cXP_set 14 = .ok (.ldc 39, 2) := by decide +kernel
theorem dXP_set_16 : decode cXP_set 16 = .ok (.invokespecial 41, 3) := by decide +kernel
theorem dXP_set_19 : decode cXP_set 19 = .ok (.athrow, 1) := by decide +kernel
theorem dXP_set_20 : decode cXP_set 20 = .ok (.iload_n 1, 1) := by decide +kernel
theorem dXP_set_21 : decode cXP_set 21 = .ok (.iload_n 2, 1) := by decide +kernel
theorem dXP_set_22 : decode cXP_set 22 = .ok (.invokestatic 44, 3) := by decide +kernel
theorem dXP_set_25 : decode cXP_set 25 = .ok (.ifCond .ne 13, 3) := by decide +kernel
theorem dXP_set_28 : decode cXP_set 28 = .ok (.new 48, 3) := by decide +kernel
theorem dXP_set_31 : decode cXP_set 31 = .ok (.dup, 1) := by decide +kernel
theorem dXP_set_32 : decode cXP_set 32 = .ok (.ldc 50, 2) := by decide +kernel
theorem dXP_set_34 : decode cXP_set 34 = .ok (.invokespecial 52, 3) := by decide +kernel
theorem dXP_set_37 : decode cXP_set 37 = .ok (.athrow, 1) := by decide +kernel
theorem dXP_set_38 : decode cXP_set 38 = .ok (.aload_n 0, 1) := by decide +kernel
theorem dXP_set_39 : decode cXP_set 39 = .ok (.iload_n 1, 1) := by decide +kernel
theorem dXP_set_40 : decode cXP_set 40 = .ok (.iload_n 2, 1) := by decide +kernel
theorem dXP_set_41 : decode cXP_set 41 = .ok (.invokevirtual 53, 3) := by decide +kernel
theorem dXP_set_44 : decode cXP_set 44 = .ok (.lstore 5, 2) := by decide +kernel
theorem dXP_set_46 : decode cXP_set 46 = .ok (.aload_n 0, 1) := by decide +kernel
theorem dXP_set_47 : decode cXP_set 47 = .ok (.iload_n 1, 1) := by decide +kernel
theorem dXP_set_48 : decode cXP_set 48 = .ok (.iload_n 2, 1) := by decide +kernel
theorem dXP_set_49 : decode cXP_set 49 = .ok (.lload_n 3, 1) := by decide +kernel
theorem dXP_set_50 : decode cXP_set 50 = .ok (.invokevirtual 57, 3) := by decide +kernel
theorem dXP_set_53 : decode cXP_set 53 = .ok (.aload_n 0, 1) := by decide +kernel
theorem dXP_set_54 : decode cXP_set 54 = .ok (.getfield 18, 3) := by decide +kernel
theorem dXP_set_57 : decode cXP_set 57 = .ok (.iconst 0, 1) := by decide +kernel
theorem dXP_set_58 : decode cXP_set 58 = .ok (.invokevirtual 61, 3) := by decide +kernel
theorem dXP_set_61 : decode cXP_set 61 = .ok (.aload_n 0, 1) := by decide +kernel
theorem dXP_set_62 : decode cXP_set 62 = .ok (.iload_n 1, 1) := by decide +kernel
theorem dXP_set_63 : decode cXP_set 63 = .ok (.invokevirtual 65, 3) := by decide +kernel
theorem dXP_set_66 : decode cXP_set 66 = .ok (.aload_n 0, 1) := by decide +kernel
theorem dXP_set_67 : decode cXP_set 67 = .ok (.getfield 18, 3) := by decide +kernel
theorem dXP_set_70 : decode cXP_set 70 = .ok (.invokevirtual 69, 3) := by decide +kernel
theorem dXP_set_73 : decode cXP_set 73 = .ok (.aload_n 0, 1) := by decide +kernel
theorem dXP_set_74 : decode cXP_set 74 = .ok (.getfield 18, 3) := by decide +kernel
theorem dXP_set_77 : decode cXP_set 77 = .ok (.getfield 33, 3) := by decide +kernel
theorem dXP_set_80 : decode cXP_set 80 = .ok (.ifCond .ne 13, 3) := by decide +kernel
theorem dXP_set_83 : decode cXP_set 83 = .ok (.new 72, 3) := by decide +kernel
theorem dXP_set_86 : decode cXP_set 86 = .ok (.dup, 1) := by decide +kernel
theorem dXP_set_87 : decode cXP_set 87 = .ok (.ldc 74, 2) := by decide +kernel
theorem dXP_set_89 : decode cXP_set 89 = .ok (.invokespecial 76, 3) := by decide +kernel
theorem dXP_set_92 : decode cXP_set 92 = .ok (.athrow, 1) := by decide +kernel
theorem dXP_set_93 : decode cXP_set 93 = .ok (.lload 5, 2) := by decide +kernel
theorem dXP_set_95 : decode cXP_set 95 = .ok (.lreturn, 1) := by decide +kernel
def yXP_isLong : MethodName := ⟨"ParityArray", "isLong", "(II)Z"⟩
abbrev cXP_isLong : ByteArray := prog_1_method_11_code
def wsXP_isLong : List Cond := .code yXP_isLong cXP_isLong 2 (some .boolean) :: pz_G
theorem tcXP_isLong : (.code yXP_isLong cXP_isLong 2 (some .boolean) : Cond) ∈ pz_G := tw_177
theorem dXP_isLong_0 : decode cXP_isLong 0 = .ok (.iload_n 0, 1) := by decide +kernel
theorem dXP_isLong_1 : decode cXP_isLong 1 = .ok (.ifCond .lt 24, 3) := by decide +kernel
theorem dXP_isLong_4 : decode cXP_isLong 4 = .ok (.iload_n 0, 1) := by decide +kernel
theorem dXP_isLong_5 : decode cXP_isLong 5 = .ok (.sipush 600, 3) := by decide +kernel
theorem dXP_isLong_8 : decode cXP_isLong 8 = .ok (.if_icmp .ge 17, 3) := by decide +kernel
theorem dXP_isLong_11 : decode cXP_isLong 11 = .ok (.iload_n 1, 1) := by decide +kernel
theorem dXP_isLong_12 : decode cXP_isLong 12 = .ok (.ifCond .lt 13, 3) := by decide +kernel
theorem dXP_isLong_15 : decode cXP_isLong 15 = .ok (.iload_n 1, 1) := by decide +kernel
theorem dXP_isLong_16 : decode cXP_isLong 16 = .ok (.bipush 16, 2) := by decide +kernel
theorem dXP_isLong_18 : decode cXP_isLong 18 = .ok (.if_icmp .ge 7, 3) := by decide +kernel
theorem dXP_isLong_21 : decode cXP_isLong 21 = .ok (.iconst 1, 1) := by decide +kernel
theorem dXP_isLong_22 : decode cXP_isLong 22 = .ok (.goto 4, 3) := by decide +kernel
theorem dXP_isLong_25 : decode cXP_isLong 25 = .ok (.iconst 0, 1) := by decide +kernel
theorem dXP_isLong_26 : decode cXP_isLong 26 = .ok (.ireturn, 1) := by decide +kernel
def yXP_readLong : MethodName := ⟨"ParityArray", "readLong", "(II)J"⟩
abbrev cXP_readLong : ByteArray := prog_1_method_16_code
def wsXP_readLong : List Cond := .code yXP_readLong cXP_readLong 5 (some .long) :: pz_G
theorem tcXP_readLong : (.code yXP_readLong cXP_readLong 5 (some .long) : Cond) ∈ pz_G := tw_197
theorem dXP_readLong_0 : decode cXP_readLong 0 = .ok (.iload_n 1, 1) := by decide +kernel
theorem dXP_readLong_1 : decode cXP_readLong 1 = .ok (.invokestatic 127, 3) := by decide +kernel
theorem dXP_readLong_4 : decode cXP_readLong 4 = .ok (.istore_n 3, 1) := by decide +kernel
theorem dXP_readLong_5 : decode cXP_readLong 5 = .ok (.iload_n 1, 1) := by decide +kernel
theorem dXP_readLong_6 : decode cXP_readLong 6 = .ok (.invokestatic 138, 3) := by decide +kernel
theorem dXP_readLong_9 : decode cXP_readLong 9 = .ok (.istore 4, 2) := by decide +kernel
theorem dXP_readLong_11 : decode cXP_readLong 11 = .ok (.aload_n 0, 1) := by decide +kernel
theorem dXP_readLong_12 : decode cXP_readLong 12 = .ok (.getfield 11, 3) := by decide +kernel
theorem dXP_readLong_15 : decode cXP_readLong 15 = .ok (.iload 4, 2) := by decide +kernel
theorem dXP_readLong_17 : decode cXP_readLong 17 = .ok (.aaload, 1) := by decide +kernel
theorem dXP_readLong_18 : decode cXP_readLong 18 = .ok (.iload_n 3, 1) := by decide +kernel
theorem dXP_readLong_19 : decode cXP_readLong 19 = .ok (.invokevirtual 141, 3) := by decide +kernel
theorem dXP_readLong_22 : decode cXP_readLong 22 = .ok (.ifCond .eq 18, 3) := by decide +kernel
theorem dXP_readLong_25 : decode cXP_readLong 25 = .ok (.aload_n 0, 1) := by decide +kernel
theorem dXP_readLong_26 : decode cXP_readLong 26 = .ok (.getfield 11, 3) := by decide +kernel
theorem dXP_readLong_29 : decode cXP_readLong 29 = .ok (.iload 4, 2) := by decide +kernel
theorem dXP_readLong_31 : decode cXP_readLong 31 = .ok (.aaload, 1) := by decide +kernel
theorem dXP_readLong_32 : decode cXP_readLong 32 = .ok (.iload_n 3, 1) := by decide +kernel
theorem dXP_readLong_33 : decode cXP_readLong 33 = .ok (.iload_n 2, 1) := by decide +kernel
theorem dXP_readLong_34 : decode cXP_readLong 34 = .ok (.invokevirtual 144, 3) := by decide +kernel
theorem dXP_readLong_37 : decode cXP_readLong 37 = .ok (.goto 11, 3) := by decide +kernel
theorem dXP_readLong_40 : decode cXP_readLong 40 = .ok (.aload_n 0, 1) := by decide +kernel
theorem dXP_readLong_41 : decode cXP_readLong 41 = .ok (.iload 4, 2) := by decide +kernel
theorem dXP_readLong_43 : decode cXP_readLong 43 = .ok (.iload_n 3, 1) := by decide +kernel
theorem dXP_readLong_44 : decode cXP_readLong 44 = .ok (.iload_n 2, 1) := by decide +kernel
theorem dXP_readLong_45 : decode cXP_readLong 45 = .ok (.invokevirtual 147, 3) := by decide +kernel
theorem dXP_readLong_48 : decode cXP_readLong 48 = .ok (.lreturn, 1) := by decide +kernel
def yXP_stripeOf : MethodName := ⟨"ParityArray", "stripeOf", "(I)I"⟩
abbrev cXP_stripeOf : ByteArray := prog_1_method_12_code
def wsXP_stripeOf : List Cond := .code yXP_stripeOf cXP_stripeOf 1 (some .int) :: pz_G
theorem tcXP_stripeOf : (.code yXP_stripeOf cXP_stripeOf 1 (some .int) : Cond) ∈ pz_G := tw_200
theorem dXP_stripeOf_0 : decode cXP_stripeOf 0 = .ok (.iload_n 0, 1) := by decide +kernel
theorem dXP_stripeOf_1 : decode cXP_stripeOf 1 = .ok (.iconst 4, 1) := by decide +kernel
theorem dXP_stripeOf_2 : decode cXP_stripeOf 2 = .ok (.idiv, 1) := by decide +kernel
theorem dXP_stripeOf_3 : decode cXP_stripeOf 3 = .ok (.ireturn, 1) := by decide +kernel
def yXP_diskOf : MethodName := ⟨"ParityArray", "diskOf", "(I)I"⟩
abbrev cXP_diskOf : ByteArray := prog_1_method_14_code
def wsXP_diskOf : List Cond := .code yXP_diskOf cXP_diskOf 2 (some .int) :: pz_G
theorem tcXP_diskOf : (.code yXP_diskOf cXP_diskOf 2 (some .int) : Cond) ∈ pz_G := tw_203
theorem dXP_diskOf_0 : decode cXP_diskOf 0 = .ok (.iload_n 0, 1) := by decide +kernel
theorem dXP_diskOf_1 : decode cXP_diskOf 1 = .ok (.iconst 4, 1) := by decide +kernel
theorem dXP_diskOf_2 : decode cXP_diskOf 2 = .ok (.irem, 1) := by decide +kernel
theorem dXP_diskOf_3 : decode cXP_diskOf 3 = .ok (.istore_n 1, 1) := by decide +kernel
theorem dXP_diskOf_4 : decode cXP_diskOf 4 = .ok (.iload_n 1, 1) := by decide +kernel
theorem dXP_diskOf_5 : decode cXP_diskOf 5 = .ok (.iload_n 0, 1) := by decide +kernel
theorem dXP_diskOf_6 : decode cXP_diskOf 6 = .ok (.invokestatic 127, 3) := by decide +kernel
theorem dXP_diskOf_9 : decode cXP_diskOf 9 = .ok (.invokestatic 131, 3) := by decide +kernel
theorem dXP_diskOf_12 : decode cXP_diskOf 12 = .ok (.if_icmp .ge 7, 3) := by decide +kernel
theorem dXP_diskOf_15 : decode cXP_diskOf 15 = .ok (.iload_n 1, 1) := by decide +kernel
theorem dXP_diskOf_16 : decode cXP_diskOf 16 = .ok (.goto 6, 3) := by decide +kernel
theorem dXP_diskOf_19 : decode cXP_diskOf 19 = .ok (.iload_n 1, 1) := by decide +kernel
theorem dXP_diskOf_20 : decode cXP_diskOf 20 = .ok (.iconst 1, 1) := by decide +kernel
theorem dXP_diskOf_21 : decode cXP_diskOf 21 = .ok (.iadd, 1) := by decide +kernel
theorem dXP_diskOf_22 : decode cXP_diskOf 22 = .ok (.ireturn, 1) := by decide +kernel
def yXP_parityDiskOf : MethodName := ⟨"ParityArray", "parityDiskOf", "(I)I"⟩
abbrev cXP_parityDiskOf : ByteArray := prog_1_method_13_code
def wsXP_parityDiskOf : List Cond := .code yXP_parityDiskOf cXP_parityDiskOf 1 (some .int) :: pz_G
theorem tcXP_parityDiskOf : (.code yXP_parityDiskOf cXP_parityDiskOf 1 (some .int) : Cond) ∈ pz_G := tw_206
theorem dXP_parityDiskOf_0 : decode cXP_parityDiskOf 0 = .ok (.iload_n 0, 1) := by decide +kernel
theorem dXP_parityDiskOf_1 : decode cXP_parityDiskOf 1 = .ok (.iconst 5, 1) := by decide +kernel
theorem dXP_parityDiskOf_2 : decode cXP_parityDiskOf 2 = .ok (.irem, 1) := by decide +kernel
theorem dXP_parityDiskOf_3 : decode cXP_parityDiskOf 3 = .ok (.ireturn, 1) := by decide +kernel
def yXP_othersTogether : MethodName := ⟨"ParityArray", "othersTogether", "(III)J"⟩
abbrev cXP_othersTogether : ByteArray := prog_1_method_17_code
def wsXP_othersTogether : List Cond := .code yXP_othersTogether cXP_othersTogether 7 (some .long) :: pz_G
theorem tcXP_othersTogether : (.code yXP_othersTogether cXP_othersTogether 7 (some .long) : Cond) ∈ pz_G := tw_218
theorem dXP_othersTogether_0 : decode cXP_othersTogether 0 = .ok (.lconst 0, 1) := by decide +kernel
theorem dXP_othersTogether_1 : decode cXP_othersTogether 1 = .ok (.lstore 4, 2) := by decide +kernel
theorem dXP_othersTogether_3 : decode cXP_othersTogether 3 = .ok (.iconst 0, 1) := by decide +kernel
theorem dXP_othersTogether_4 : decode cXP_othersTogether 4 = .ok (.istore 6, 2) := by decide +kernel
theorem dXP_othersTogether_6 : decode cXP_othersTogether 6 = .ok (.iload 6, 2) := by decide +kernel
theorem dXP_othersTogether_8 : decode cXP_othersTogether 8 = .ok (.iconst 5, 1) := by decide +kernel
theorem dXP_othersTogether_9 : decode cXP_othersTogether 9 = .ok (.if_icmp .ge 32, 3) := by decide +kernel
theorem dXP_othersTogether_12 : decode cXP_othersTogether 12 = .ok (.iload 6, 2) := by decide +kernel
theorem dXP_othersTogether_14 : decode cXP_othersTogether 14 = .ok (.iload_n 1, 1) := by decide +kernel
theorem dXP_othersTogether_15 : decode cXP_othersTogether 15 = .ok (.if_icmp .eq 20, 3) := by decide +kernel
theorem dXP_othersTogether_18 : decode cXP_othersTogether 18 = .ok (.lload 4, 2) := by decide +kernel
theorem dXP_othersTogether_20 : decode cXP_othersTogether 20 = .ok (.aload_n 0, 1) := by decide +kernel
theorem dXP_othersTogether_21 : decode cXP_othersTogether 21 = .ok (.getfield 11, 3) := by decide +kernel
theorem dXP_othersTogether_24 : decode cXP_othersTogether 24 = .ok (.iload 6, 2) := by decide +kernel
theorem dXP_othersTogether_26 : decode cXP_othersTogether 26 = .ok (.aaload, 1) := by decide +kernel
theorem dXP_othersTogether_27 : decode cXP_othersTogether 27 = .ok (.iload_n 2, 1) := by decide +kernel
theorem dXP_othersTogether_28 : decode cXP_othersTogether 28 = .ok (.iload_n 3, 1) := by decide +kernel
theorem dXP_othersTogether_29 : decode cXP_othersTogether 29 = .ok (.invokevirtual 144, 3) := by decide +kernel
theorem dXP_othersTogether_32 : decode cXP_othersTogether 32 = .ok (.lxor, 1) := by decide +kernel
theorem dXP_othersTogether_33 : decode cXP_othersTogether 33 = .ok (.lstore 4, 2) := by decide +kernel
theorem dXP_othersTogether_35 : decode cXP_othersTogether 35 = .ok (.iinc 6 1, 3) := by decide +kernel
theorem dXP_othersTogether_38 : decode cXP_othersTogether 38 = .ok (.goto (-32), 3) := by decide +kernel
theorem dXP_othersTogether_41 : decode cXP_othersTogether 41 = .ok (.lload 4, 2) := by decide +kernel
theorem dXP_othersTogether_43 : decode cXP_othersTogether 43 = .ok (.lreturn, 1) := by decide +kernel
def yXP_prepareRows : MethodName := ⟨"ParityArray", "prepareRows", "(IIJ)V"⟩
abbrev cXP_prepareRows : ByteArray := prog_1_method_18_code
def wsXP_prepareRows : List Cond := .code yXP_prepareRows cXP_prepareRows 8 (none : Option Jvm.ClassFile.FieldType) :: pz_G
theorem tcXP_prepareRows : (.code yXP_prepareRows cXP_prepareRows 8 (none : Option Jvm.ClassFile.FieldType) : Cond) ∈ pz_G := tw_222
theorem dXP_prepareRows_0 : decode cXP_prepareRows 0 = .ok (.iload_n 1, 1) := by decide +kernel
theorem dXP_prepareRows_1 : decode cXP_prepareRows 1 = .ok (.invokestatic 127, 3) := by decide +kernel
theorem dXP_prepareRows_4 : decode cXP_prepareRows 4 = .ok (.istore 5, 2) := by decide +kernel
theorem dXP_prepareRows_6 : decode cXP_prepareRows 6 = .ok (.aload_n 0, 1) := by decide +kernel
theorem dXP_prepareRows_7 : decode cXP_prepareRows 7 = .ok (.getfield 11, 3) := by decide +kernel
theorem dXP_prepareRows_10 : decode cXP_prepareRows 10 = .ok (.iload 5, 2) := by decide +kernel
theorem dXP_prepareRows_12 : decode cXP_prepareRows 12 = .ok (.invokestatic 131, 3) := by decide +kernel
theorem dXP_prepareRows_15 : decode cXP_prepareRows 15 = .ok (.aaload, 1) := by decide +kernel
theorem dXP_prepareRows_16 : decode cXP_prepareRows 16 = .ok (.astore 6, 2) := by decide +kernel
theorem dXP_prepareRows_18 : decode cXP_prepareRows 18 = .ok (.iconst 0, 1) := by decide +kernel
theorem dXP_prepareRows_19 : decode cXP_prepareRows 19 = .ok (.istore 7, 2) := by decide +kernel
theorem dXP_prepareRows_21 : decode cXP_prepareRows 21 = .ok (.iload 7, 2) := by decide +kernel
theorem dXP_prepareRows_23 : decode cXP_prepareRows 23 = .ok (.bipush 16, 2) := by decide +kernel
theorem dXP_prepareRows_25 : decode cXP_prepareRows 25 = .ok (.if_icmp .ge 47, 3) := by decide +kernel
theorem dXP_prepareRows_28 : decode cXP_prepareRows 28 = .ok (.aload_n 0, 1) := by decide +kernel
theorem dXP_prepareRows_29 : decode cXP_prepareRows 29 = .ok (.getfield 22, 3) := by decide +kernel
theorem dXP_prepareRows_32 : decode cXP_prepareRows 32 = .ok (.iload 7, 2) := by decide +kernel
theorem dXP_prepareRows_34 : decode cXP_prepareRows 34 = .ok (.aload_n 0, 1) := by decide +kernel
theorem dXP_prepareRows_35 : decode cXP_prepareRows 35 = .ok (.iload_n 1, 1) := by decide +kernel
theorem dXP_prepareRows_36 : decode cXP_prepareRows 36 = .ok (.iload 7, 2) := by decide +kernel
theorem dXP_prepareRows_38 : decode cXP_prepareRows 38 = .ok (.invokevirtual 53, 3) := by decide +kernel
theorem dXP_prepareRows_41 : decode cXP_prepareRows 41 = .ok (.lastore, 1) := by decide +kernel
theorem dXP_prepareRows_42 : decode cXP_prepareRows 42 = .ok (.aload_n 0, 1) := by decide +kernel
theorem dXP_prepareRows_43 : decode cXP_prepareRows 43 = .ok (.getfield 26, 3) := by decide +kernel
theorem dXP_prepareRows_46 : decode cXP_prepareRows 46 = .ok (.iload 7, 2) := by decide +kernel
theorem dXP_prepareRows_48 : decode cXP_prepareRows 48 = .ok (.aload 6, 2) := by decide +kernel
theorem dXP_prepareRows_50 : decode cXP_prepareRows 50 = .ok (.iload 5, 2) := by decide +kernel
theorem dXP_prepareRows_52 : decode cXP_prepareRows 52 = .ok (.iload 7, 2) := by decide +kernel
theorem dXP_prepareRows_54 : decode cXP_prepareRows 54 = .ok (.invokevirtual 144, 3) := by decide +kernel
theorem dXP_prepareRows_57 : decode cXP_prepareRows 57 = .ok (.aload_n 0, 1) := by decide +kernel
theorem dXP_prepareRows_58 : decode cXP_prepareRows 58 = .ok (.getfield 22, 3) := by decide +kernel
theorem dXP_prepareRows_61 : decode cXP_prepareRows 61 = .ok (.iload 7, 2) := by decide +kernel
theorem dXP_prepareRows_63 : decode cXP_prepareRows 63 = .ok (.laload, 1) := by decide +kernel
theorem dXP_prepareRows_64 : decode cXP_prepareRows 64 = .ok (.lxor, 1) := by decide +kernel
theorem dXP_prepareRows_65 : decode cXP_prepareRows 65 = .ok (.lastore, 1) := by decide +kernel
theorem dXP_prepareRows_66 : decode cXP_prepareRows 66 = .ok (.iinc 7 1, 3) := by decide +kernel
theorem dXP_prepareRows_69 : decode cXP_prepareRows 69 = .ok (.goto (-48), 3) := by decide +kernel
theorem dXP_prepareRows_72 : decode cXP_prepareRows 72 = .ok (.aload_n 0, 1) := by decide +kernel
theorem dXP_prepareRows_73 : decode cXP_prepareRows 73 = .ok (.getfield 22, 3) := by decide +kernel
theorem dXP_prepareRows_76 : decode cXP_prepareRows 76 = .ok (.iload_n 2, 1) := by decide +kernel
theorem dXP_prepareRows_77 : decode cXP_prepareRows 77 = .ok (.lload_n 3, 1) := by decide +kernel
theorem dXP_prepareRows_78 : decode cXP_prepareRows 78 = .ok (.lastore, 1) := by decide +kernel
theorem dXP_prepareRows_79 : decode cXP_prepareRows 79 = .ok (.iconst 0, 1) := by decide +kernel
theorem dXP_prepareRows_80 : decode cXP_prepareRows 80 = .ok (.istore 7, 2) := by decide +kernel
theorem dXP_prepareRows_82 : decode cXP_prepareRows 82 = .ok (.iload 7, 2) := by decide +kernel
theorem dXP_prepareRows_84 : decode cXP_prepareRows 84 = .ok (.bipush 16, 2) := by decide +kernel
theorem dXP_prepareRows_86 : decode cXP_prepareRows 86 = .ok (.if_icmp .ge 31, 3) := by decide +kernel
theorem dXP_prepareRows_89 : decode cXP_prepareRows 89 = .ok (.aload_n 0, 1) := by decide +kernel
theorem dXP_prepareRows_90 : decode cXP_prepareRows 90 = .ok (.getfield 29, 3) := by decide +kernel
theorem dXP_prepareRows_93 : decode cXP_prepareRows 93 = .ok (.iload 7, 2) := by decide +kernel
theorem dXP_prepareRows_95 : decode cXP_prepareRows 95 = .ok (.aload_n 0, 1) := by decide +kernel
theorem dXP_prepareRows_96 : decode cXP_prepareRows 96 = .ok (.getfield 26, 3) := by decide +kernel
theorem dXP_prepareRows_99 : decode cXP_prepareRows 99 = .ok (.iload 7, 2) := by decide +kernel
theorem dXP_prepareRows_101 : decode cXP_prepareRows 101 = .ok (.laload, 1) := by decide +kernel
theorem dXP_prepareRows_102 : decode cXP_prepareRows 102 = .ok (.aload_n 0, 1) := by decide +kernel
theorem dXP_prepareRows_103 : decode cXP_prepareRows 103 = .ok (.getfield 22, 3) := by decide +kernel
theorem dXP_prepareRows_106 : decode cXP_prepareRows 106 = .ok (.iload 7, 2) := by decide +kernel
theorem dXP_prepareRows_108 : decode cXP_prepareRows 108 = .ok (.laload, 1) := by decide +kernel
theorem dXP_prepareRows_109 : decode cXP_prepareRows 109 = .ok (.lxor, 1) := by decide +kernel
theorem dXP_prepareRows_110 : decode cXP_prepareRows 110 = .ok (.lastore, 1) := by decide +kernel
theorem dXP_prepareRows_111 : decode cXP_prepareRows 111 = .ok (.iinc 7 1, 3) := by decide +kernel
theorem dXP_prepareRows_114 : decode cXP_prepareRows 114 = .ok (.goto (-32), 3) := by decide +kernel
theorem dXP_prepareRows_117 : decode cXP_prepareRows 117 = .ok (.return_, 1) := by decide +kernel
def yXP_writeRows : MethodName := ⟨"ParityArray", "writeRows", "(I)V"⟩
abbrev cXP_writeRows : ByteArray := prog_1_method_19_code
def wsXP_writeRows : List Cond := .code yXP_writeRows cXP_writeRows 5 (none : Option Jvm.ClassFile.FieldType) :: pz_G
theorem tcXP_writeRows : (.code yXP_writeRows cXP_writeRows 5 (none : Option Jvm.ClassFile.FieldType) : Cond) ∈ pz_G := tw_230
theorem dXP_writeRows_0 : decode cXP_writeRows 0 = .ok (.iload_n 1, 1) := by decide +kernel
theorem dXP_writeRows_1 : decode cXP_writeRows 1 = .ok (.invokestatic 127, 3) := by decide +kernel
theorem dXP_writeRows_4 : decode cXP_writeRows 4 = .ok (.istore_n 2, 1) := by decide +kernel
theorem dXP_writeRows_5 : decode cXP_writeRows 5 = .ok (.aload_n 0, 1) := by decide +kernel
theorem dXP_writeRows_6 : decode cXP_writeRows 6 = .ok (.getfield 11, 3) := by decide +kernel
theorem dXP_writeRows_9 : decode cXP_writeRows 9 = .ok (.iload_n 2, 1) := by decide +kernel
theorem dXP_writeRows_10 : decode cXP_writeRows 10 = .ok (.invokestatic 131, 3) := by decide +kernel
theorem dXP_writeRows_13 : decode cXP_writeRows 13 = .ok (.aaload, 1) := by decide +kernel
theorem dXP_writeRows_14 : decode cXP_writeRows 14 = .ok (.astore_n 3, 1) := by decide +kernel
theorem dXP_writeRows_15 : decode cXP_writeRows 15 = .ok (.aload_n 0, 1) := by decide +kernel
theorem dXP_writeRows_16 : decode cXP_writeRows 16 = .ok (.getfield 11, 3) := by decide +kernel
theorem dXP_writeRows_19 : decode cXP_writeRows 19 = .ok (.iload_n 1, 1) := by decide +kernel
theorem dXP_writeRows_20 : decode cXP_writeRows 20 = .ok (.invokestatic 138, 3) := by decide +kernel
theorem dXP_writeRows_23 : decode cXP_writeRows 23 = .ok (.aaload, 1) := by decide +kernel
theorem dXP_writeRows_24 : decode cXP_writeRows 24 = .ok (.astore 4, 2) := by decide +kernel
theorem dXP_writeRows_26 : decode cXP_writeRows 26 = .ok (.aload_n 3, 1) := by decide +kernel
theorem dXP_writeRows_27 : decode cXP_writeRows 27 = .ok (.iload_n 2, 1) := by decide +kernel
theorem dXP_writeRows_28 : decode cXP_writeRows 28 = .ok (.invokevirtual 141, 3) := by decide +kernel
theorem dXP_writeRows_31 : decode cXP_writeRows 31 = .ok (.ifCond .eq 22, 3) := by decide +kernel
theorem dXP_writeRows_34 : decode cXP_writeRows 34 = .ok (.aload_n 3, 1) := by decide +kernel
theorem dXP_writeRows_35 : decode cXP_writeRows 35 = .ok (.iload_n 1, 1) := by decide +kernel
theorem dXP_writeRows_36 : decode cXP_writeRows 36 = .ok (.aload_n 0, 1) := by decide +kernel
theorem dXP_writeRows_37 : decode cXP_writeRows 37 = .ok (.getfield 26, 3) := by decide +kernel
theorem dXP_writeRows_40 : decode cXP_writeRows 40 = .ok (.aload_n 0, 1) := by decide +kernel
theorem dXP_writeRows_41 : decode cXP_writeRows 41 = .ok (.getfield 18, 3) := by decide +kernel
theorem dXP_writeRows_44 : decode cXP_writeRows 44 = .ok (.sipush 136, 3) := by decide +kernel
theorem dXP_writeRows_47 : decode cXP_writeRows 47 = .ok (.invokevirtual 151, 3) := by decide +kernel
theorem dXP_writeRows_50 : decode cXP_writeRows 50 = .ok (.invokevirtual 154, 3) := by decide +kernel
theorem dXP_writeRows_53 : decode cXP_writeRows 53 = .ok (.aload 4, 2) := by decide +kernel
theorem dXP_writeRows_55 : decode cXP_writeRows 55 = .ok (.iload_n 2, 1) := by decide +kernel
theorem dXP_writeRows_56 : decode cXP_writeRows 56 = .ok (.invokevirtual 141, 3) := by decide +kernel
theorem dXP_writeRows_59 : decode cXP_writeRows 59 = .ok (.ifCond .eq 23, 3) := by decide +kernel
theorem dXP_writeRows_62 : decode cXP_writeRows 62 = .ok (.aload 4, 2) := by decide +kernel
theorem dXP_writeRows_64 : decode cXP_writeRows 64 = .ok (.iload_n 2, 1) := by decide +kernel
theorem dXP_writeRows_65 : decode cXP_writeRows 65 = .ok (.aload_n 0, 1) := by decide +kernel
theorem dXP_writeRows_66 : decode cXP_writeRows 66 = .ok (.getfield 22, 3) := by decide +kernel
theorem dXP_writeRows_69 : decode cXP_writeRows 69 = .ok (.aload_n 0, 1) := by decide +kernel
theorem dXP_writeRows_70 : decode cXP_writeRows 70 = .ok (.getfield 18, 3) := by decide +kernel
theorem dXP_writeRows_73 : decode cXP_writeRows 73 = .ok (.sipush 128, 3) := by decide +kernel
theorem dXP_writeRows_76 : decode cXP_writeRows 76 = .ok (.invokevirtual 151, 3) := by decide +kernel
theorem dXP_writeRows_79 : decode cXP_writeRows 79 = .ok (.invokevirtual 158, 3) := by decide +kernel
theorem dXP_writeRows_82 : decode cXP_writeRows 82 = .ok (.aload_n 3, 1) := by decide +kernel
theorem dXP_writeRows_83 : decode cXP_writeRows 83 = .ok (.iload_n 2, 1) := by decide +kernel
theorem dXP_writeRows_84 : decode cXP_writeRows 84 = .ok (.invokevirtual 141, 3) := by decide +kernel
theorem dXP_writeRows_87 : decode cXP_writeRows 87 = .ok (.ifCond .eq 22, 3) := by decide +kernel
theorem dXP_writeRows_90 : decode cXP_writeRows 90 = .ok (.aload_n 3, 1) := by decide +kernel
theorem dXP_writeRows_91 : decode cXP_writeRows 91 = .ok (.iload_n 2, 1) := by decide +kernel
theorem dXP_writeRows_92 : decode cXP_writeRows 92 = .ok (.aload_n 0, 1) := by decide +kernel
theorem dXP_writeRows_93 : decode cXP_writeRows 93 = .ok (.getfield 29, 3) := by decide +kernel
theorem dXP_writeRows_96 : decode cXP_writeRows 96 = .ok (.aload_n 0, 1) := by decide +kernel
theorem dXP_writeRows_97 : decode cXP_writeRows 97 = .ok (.getfield 18, 3) := by decide +kernel
theorem dXP_writeRows_100 : decode cXP_writeRows 100 = .ok (.sipush 128, 3) := by decide +kernel
theorem dXP_writeRows_103 : decode cXP_writeRows 103 = .ok (.invokevirtual 151, 3) := by decide +kernel
theorem dXP_writeRows_106 : decode cXP_writeRows 106 = .ok (.invokevirtual 158, 3) := by decide +kernel
theorem dXP_writeRows_109 : decode cXP_writeRows 109 = .ok (.return_, 1) := by decide +kernel
def yXP_get : MethodName := ⟨"ParityArray", "get", "(II)J"⟩
abbrev cXP_get : ByteArray := prog_1_method_3_code
def wsXP_get : List Cond := .code yXP_get cXP_get 3 (some .long) :: pz_G
theorem tcXP_get : (.code yXP_get cXP_get 3 (some .long) : Cond) ∈ pz_G := tw_276
theorem dXP_get_0 : decode cXP_get 0 = .ok (.aload_n 0, 1) := by decide +kernel
theorem dXP_get_1 : decode cXP_get 1 = .ok (.getfield 18, 3) := by decide +kernel
theorem dXP_get_4 : decode cXP_get 4 = .ok (.getfield 33, 3) := by decide +kernel
theorem dXP_get_7 : decode cXP_get 7 = .ok (.ifCond .ne 13, 3) := by decide +kernel
theorem dXP_get_10 : decode cXP_get 10 = .ok (.new 37, 3) := by decide +kernel
theorem dXP_get_13 : decode cXP_get 13 = .ok (.dup, 1) := by decide +kernel
theorem dXP_get_14 : decode cXP_get 14 = .ok (.ldc 39, 2) := by decide +kernel
theorem dXP_get_16 : decode cXP_get 16 = .ok (.invokespecial 41, 3) := by decide +kernel
theorem dXP_get_19 : decode cXP_get 19 = .ok (.athrow, 1) := by decide +kernel
theorem dXP_get_20 : decode cXP_get 20 = .ok (.iload_n 1, 1) := by decide +kernel
theorem dXP_get_21 : decode cXP_get 21 = .ok (.iload_n 2, 1) := by decide +kernel
theorem dXP_get_22 : decode cXP_get 22 = .ok (.invokestatic 44, 3) := by decide +kernel
theorem dXP_get_25 : decode cXP_get 25 = .ok (.ifCond .ne 13, 3) := by decide +kernel
theorem dXP_get_28 : decode cXP_get 28 = .ok (.new 48, 3) := by decide +kernel
theorem dXP_get_31 : decode cXP_get 31 = .ok (.dup, 1) := by decide +kernel
theorem dXP_get_32 : decode cXP_get 32 = .ok (.ldc 50, 2) := by decide +kernel
theorem dXP_get_34 : decode cXP_get 34 = .ok (.invokespecial 52, 3) := by decide +kernel
theorem dXP_get_37 : decode cXP_get 37 = .ok (.athrow, 1) := by decide +kernel
theorem dXP_get_38 : decode cXP_get 38 = .ok (.aload_n 0, 1) := by decide +kernel
theorem dXP_get_39 : decode cXP_get 39 = .ok (.iload_n 1, 1) := by decide +kernel
theorem dXP_get_40 : decode cXP_get 40 = .ok (.iload_n 2, 1) := by decide +kernel
theorem dXP_get_41 : decode cXP_get 41 = .ok (.invokevirtual 53, 3) := by decide +kernel
theorem dXP_get_44 : decode cXP_get 44 = .ok (.lreturn, 1) := by decide +kernel
def yXP_die : MethodName := ⟨"ParityArray", "die", "(I)V"⟩
abbrev cXP_die : ByteArray := prog_1_method_4_code
def wsXP_die : List Cond := .code yXP_die cXP_die 2 (none : Option Jvm.ClassFile.FieldType) :: pz_G
theorem tcXP_die : (.code yXP_die cXP_die 2 (none : Option Jvm.ClassFile.FieldType) : Cond) ∈ pz_G := tw_283
theorem dXP_die_0 : decode cXP_die 0 = .ok (.iload_n 1, 1) := by decide +kernel
theorem dXP_die_1 : decode cXP_die 1 = .ok (.ifCond .lt 8, 3) := by decide +kernel
theorem dXP_die_4 : decode cXP_die 4 = .ok (.iload_n 1, 1) := by decide +kernel
theorem dXP_die_5 : decode cXP_die 5 = .ok (.iconst 5, 1) := by decide +kernel
theorem dXP_die_6 : decode cXP_die 6 = .ok (.if_icmp .lt 13, 3) := by decide +kernel
theorem dXP_die_9 : decode cXP_die 9 = .ok (.new 48, 3) := by decide +kernel
theorem dXP_die_12 : decode cXP_die 12 = .ok (.dup, 1) := by decide +kernel
theorem dXP_die_13 : decode cXP_die 13 = .ok (.ldc 77, 2) := by decide +kernel
theorem dXP_die_15 : decode cXP_die 15 = .ok (.invokespecial 52, 3) := by decide +kernel
theorem dXP_die_18 : decode cXP_die 18 = .ok (.athrow, 1) := by decide +kernel
theorem dXP_die_19 : decode cXP_die 19 = .ok (.aload_n 0, 1) := by decide +kernel
theorem dXP_die_20 : decode cXP_die 20 = .ok (.getfield 18, 3) := by decide +kernel
theorem dXP_die_23 : decode cXP_die 23 = .ok (.getfield 33, 3) := by decide +kernel
theorem dXP_die_26 : decode cXP_die 26 = .ok (.ifCond .ne 13, 3) := by decide +kernel
theorem dXP_die_29 : decode cXP_die 29 = .ok (.new 37, 3) := by decide +kernel
theorem dXP_die_32 : decode cXP_die 32 = .ok (.dup, 1) := by decide +kernel
theorem dXP_die_33 : decode cXP_die 33 = .ok (.ldc 39, 2) := by decide +kernel
theorem dXP_die_35 : decode cXP_die 35 = .ok (.invokespecial 41, 3) := by decide +kernel
theorem dXP_die_38 : decode cXP_die 38 = .ok (.athrow, 1) := by decide +kernel
theorem dXP_die_39 : decode cXP_die 39 = .ok (.aload_n 0, 1) := by decide +kernel
theorem dXP_die_40 : decode cXP_die 40 = .ok (.invokevirtual 79, 3) := by decide +kernel
theorem dXP_die_43 : decode cXP_die 43 = .ok (.iconst (-1), 1) := by decide +kernel
theorem dXP_die_44 : decode cXP_die 44 = .ok (.if_icmp .eq 13, 3) := by decide +kernel
theorem dXP_die_47 : decode cXP_die 47 = .ok (.new 37, 3) := by decide +kernel
theorem dXP_die_50 : decode cXP_die 50 = .ok (.dup, 1) := by decide +kernel
theorem dXP_die_51 : decode cXP_die 51 = .ok (.ldc 83, 2) := by decide +kernel
theorem dXP_die_53 : decode cXP_die 53 = .ok (.invokespecial 41, 3) := by decide +kernel
theorem dXP_die_56 : decode cXP_die 56 = .ok (.athrow, 1) := by decide +kernel
theorem dXP_die_57 : decode cXP_die 57 = .ok (.aload_n 0, 1) := by decide +kernel
theorem dXP_die_58 : decode cXP_die 58 = .ok (.getfield 11, 3) := by decide +kernel
theorem dXP_die_61 : decode cXP_die 61 = .ok (.iload_n 1, 1) := by decide +kernel
theorem dXP_die_62 : decode cXP_die 62 = .ok (.aaload, 1) := by decide +kernel
theorem dXP_die_63 : decode cXP_die 63 = .ok (.invokevirtual 85, 3) := by decide +kernel
theorem dXP_die_66 : decode cXP_die 66 = .ok (.return_, 1) := by decide +kernel
def yXP_unwellDisk : MethodName := ⟨"ParityArray", "unwellDisk", "()I"⟩
abbrev cXP_unwellDisk : ByteArray := prog_1_method_15_code
def wsXP_unwellDisk : List Cond := .code yXP_unwellDisk cXP_unwellDisk 2 (some .int) :: pz_G
theorem tcXP_unwellDisk : (.code yXP_unwellDisk cXP_unwellDisk 2 (some .int) : Cond) ∈ pz_G := tw_288
theorem dXP_unwellDisk_0 : decode cXP_unwellDisk 0 = .ok (.iconst 0, 1) := by decide +kernel
theorem dXP_unwellDisk_1 : decode cXP_unwellDisk 1 = .ok (.istore_n 1, 1) := by decide +kernel
theorem dXP_unwellDisk_2 : decode cXP_unwellDisk 2 = .ok (.iload_n 1, 1) := by decide +kernel
theorem dXP_unwellDisk_3 : decode cXP_unwellDisk 3 = .ok (.iconst 5, 1) := by decide +kernel
theorem dXP_unwellDisk_4 : decode cXP_unwellDisk 4 = .ok (.if_icmp .ge 23, 3) := by decide +kernel
theorem dXP_unwellDisk_7 : decode cXP_unwellDisk 7 = .ok (.aload_n 0, 1) := by decide +kernel
theorem dXP_unwellDisk_8 : decode cXP_unwellDisk 8 = .ok (.getfield 11, 3) := by decide +kernel
theorem dXP_unwellDisk_11 : decode cXP_unwellDisk 11 = .ok (.iload_n 1, 1) := by decide +kernel
theorem dXP_unwellDisk_12 : decode cXP_unwellDisk 12 = .ok (.aaload, 1) := by decide +kernel
theorem dXP_unwellDisk_13 : decode cXP_unwellDisk 13 = .ok (.invokevirtual 134, 3) := by decide +kernel
theorem dXP_unwellDisk_16 : decode cXP_unwellDisk 16 = .ok (.ifCond .ne 5, 3) := by decide +kernel
theorem dXP_unwellDisk_19 : decode cXP_unwellDisk 19 = .ok (.iload_n 1, 1) := by decide +kernel
theorem dXP_unwellDisk_20 : decode cXP_unwellDisk 20 = .ok (.ireturn, 1) := by decide +kernel
theorem dXP_unwellDisk_21 : decode cXP_unwellDisk 21 = .ok (.iinc 1 1, 3) := by decide +kernel
theorem dXP_unwellDisk_24 : decode cXP_unwellDisk 24 = .ok (.goto (-22), 3) := by decide +kernel
theorem dXP_unwellDisk_27 : decode cXP_unwellDisk 27 = .ok (.iconst (-1), 1) := by decide +kernel
theorem dXP_unwellDisk_28 : decode cXP_unwellDisk 28 = .ok (.ireturn, 1) := by decide +kernel
def yXP_replace : MethodName := ⟨"ParityArray", "replace", "()I"⟩
abbrev cXP_replace : ByteArray := prog_1_method_5_code
def wsXP_replace : List Cond := .code yXP_replace cXP_replace 2 (some .int) :: pz_G
theorem tcXP_replace : (.code yXP_replace cXP_replace 2 (some .int) : Cond) ∈ pz_G := tw_307
theorem dXP_replace_0 : decode cXP_replace 0 = .ok (.aload_n 0, 1) := by decide +kernel
theorem dXP_replace_1 : decode cXP_replace 1 = .ok (.invokevirtual 79, 3) := by decide +kernel
theorem dXP_replace_4 : decode cXP_replace 4 = .ok (.istore_n 1, 1) := by decide +kernel
theorem dXP_replace_5 : decode cXP_replace 5 = .ok (.iload_n 1, 1) := by decide +kernel
theorem dXP_replace_6 : decode cXP_replace 6 = .ok (.iconst (-1), 1) := by decide +kernel
theorem dXP_replace_7 : decode cXP_replace 7 = .ok (.if_icmp .eq 15, 3) := by decide +kernel
theorem dXP_replace_10 : decode cXP_replace 10 = .ok (.aload_n 0, 1) := by decide +kernel
theorem dXP_replace_11 : decode cXP_replace 11 = .ok (.getfield 11, 3) := by decide +kernel
theorem dXP_replace_14 : decode cXP_replace 14 = .ok (.iload_n 1, 1) := by decide +kernel
theorem dXP_replace_15 : decode cXP_replace 15 = .ok (.aaload, 1) := by decide +kernel
theorem dXP_replace_16 : decode cXP_replace 16 = .ok (.getfield 88, 3) := by decide +kernel
theorem dXP_replace_19 : decode cXP_replace 19 = .ok (.ifCond .ne 13, 3) := by decide +kernel
theorem dXP_replace_22 : decode cXP_replace 22 = .ok (.new 37, 3) := by decide +kernel
theorem dXP_replace_25 : decode cXP_replace 25 = .ok (.dup, 1) := by decide +kernel
theorem dXP_replace_26 : decode cXP_replace 26 = .ok (.ldc 91, 2) := by decide +kernel
theorem dXP_replace_28 : decode cXP_replace 28 = .ok (.invokespecial 41, 3) := by decide +kernel
theorem dXP_replace_31 : decode cXP_replace 31 = .ok (.athrow, 1) := by decide +kernel
theorem dXP_replace_32 : decode cXP_replace 32 = .ok (.aload_n 0, 1) := by decide +kernel
theorem dXP_replace_33 : decode cXP_replace 33 = .ok (.getfield 11, 3) := by decide +kernel
theorem dXP_replace_36 : decode cXP_replace 36 = .ok (.iload_n 1, 1) := by decide +kernel
theorem dXP_replace_37 : decode cXP_replace 37 = .ok (.aaload, 1) := by decide +kernel
theorem dXP_replace_38 : decode cXP_replace 38 = .ok (.iconst 0, 1) := by decide +kernel
theorem dXP_replace_39 : decode cXP_replace 39 = .ok (.putfield 88, 3) := by decide +kernel
theorem dXP_replace_42 : decode cXP_replace 42 = .ok (.iload_n 1, 1) := by decide +kernel
theorem dXP_replace_43 : decode cXP_replace 43 = .ok (.ireturn, 1) := by decide +kernel
def yXP_rebuild : MethodName := ⟨"ParityArray", "rebuild", "()I"⟩
abbrev cXP_rebuild : ByteArray := prog_1_method_6_code
def wsXP_rebuild : List Cond := .code yXP_rebuild cXP_rebuild 2 (some .int) :: pz_G
theorem tcXP_rebuild : (.code yXP_rebuild cXP_rebuild 2 (some .int) : Cond) ∈ pz_G := tw_315
theorem dXP_rebuild_0 : decode cXP_rebuild 0 = .ok (.aload_n 0, 1) := by decide +kernel
theorem dXP_rebuild_1 : decode cXP_rebuild 1 = .ok (.getfield 18, 3) := by decide +kernel
theorem dXP_rebuild_4 : decode cXP_rebuild 4 = .ok (.getfield 33, 3) := by decide +kernel
theorem dXP_rebuild_7 : decode cXP_rebuild 7 = .ok (.ifCond .ne 13, 3) := by decide +kernel
theorem dXP_rebuild_10 : decode cXP_rebuild 10 = .ok (.new 37, 3) := by decide +kernel
theorem dXP_rebuild_13 : decode cXP_rebuild 13 = .ok (.dup, 1) := by decide +kernel
theorem dXP_rebuild_14 : decode cXP_rebuild 14 = .ok (.ldc 39, 2) := by decide +kernel
theorem dXP_rebuild_16 : decode cXP_rebuild 16 = .ok (.invokespecial 41, 3) := by decide +kernel
theorem dXP_rebuild_19 : decode cXP_rebuild 19 = .ok (.athrow, 1) := by decide +kernel
theorem dXP_rebuild_20 : decode cXP_rebuild 20 = .ok (.aload_n 0, 1) := by decide +kernel
theorem dXP_rebuild_21 : decode cXP_rebuild 21 = .ok (.invokevirtual 79, 3) := by decide +kernel
theorem dXP_rebuild_24 : decode cXP_rebuild 24 = .ok (.istore_n 1, 1) := by decide +kernel
theorem dXP_rebuild_25 : decode cXP_rebuild 25 = .ok (.iload_n 1, 1) := by decide +kernel
theorem dXP_rebuild_26 : decode cXP_rebuild 26 = .ok (.iconst (-1), 1) := by decide +kernel
theorem dXP_rebuild_27 : decode cXP_rebuild 27 = .ok (.if_icmp .eq 15, 3) := by decide +kernel
theorem dXP_rebuild_30 : decode cXP_rebuild 30 = .ok (.aload_n 0, 1) := by decide +kernel
theorem dXP_rebuild_31 : decode cXP_rebuild 31 = .ok (.getfield 11, 3) := by decide +kernel
theorem dXP_rebuild_34 : decode cXP_rebuild 34 = .ok (.iload_n 1, 1) := by decide +kernel
theorem dXP_rebuild_35 : decode cXP_rebuild 35 = .ok (.aaload, 1) := by decide +kernel
theorem dXP_rebuild_36 : decode cXP_rebuild 36 = .ok (.getfield 88, 3) := by decide +kernel
theorem dXP_rebuild_39 : decode cXP_rebuild 39 = .ok (.ifCond .eq 13, 3) := by decide +kernel
theorem dXP_rebuild_42 : decode cXP_rebuild 42 = .ok (.new 37, 3) := by decide +kernel
theorem dXP_rebuild_45 : decode cXP_rebuild 45 = .ok (.dup, 1) := by decide +kernel
theorem dXP_rebuild_46 : decode cXP_rebuild 46 = .ok (.ldc 93, 2) := by decide +kernel
theorem dXP_rebuild_48 : decode cXP_rebuild 48 = .ok (.invokespecial 41, 3) := by decide +kernel
theorem dXP_rebuild_51 : decode cXP_rebuild 51 = .ok (.athrow, 1) := by decide +kernel
theorem dXP_rebuild_52 : decode cXP_rebuild 52 = .ok (.aload_n 0, 1) := by decide +kernel
theorem dXP_rebuild_53 : decode cXP_rebuild 53 = .ok (.iload_n 1, 1) := by decide +kernel
theorem dXP_rebuild_54 : decode cXP_rebuild 54 = .ok (.aload_n 0, 1) := by decide +kernel
theorem dXP_rebuild_55 : decode cXP_rebuild 55 = .ok (.getfield 11, 3) := by decide +kernel
theorem dXP_rebuild_58 : decode cXP_rebuild 58 = .ok (.iload_n 1, 1) := by decide +kernel
theorem dXP_rebuild_59 : decode cXP_rebuild 59 = .ok (.aaload, 1) := by decide +kernel
theorem dXP_rebuild_60 : decode cXP_rebuild 60 = .ok (.getfield 95, 3) := by decide +kernel
theorem dXP_rebuild_63 : decode cXP_rebuild 63 = .ok (.invokevirtual 99, 3) := by decide +kernel
theorem dXP_rebuild_66 : decode cXP_rebuild 66 = .ok (.aload_n 0, 1) := by decide +kernel
theorem dXP_rebuild_67 : decode cXP_rebuild 67 = .ok (.getfield 11, 3) := by decide +kernel
theorem dXP_rebuild_70 : decode cXP_rebuild 70 = .ok (.iload_n 1, 1) := by decide +kernel
theorem dXP_rebuild_71 : decode cXP_rebuild 71 = .ok (.aaload, 1) := by decide +kernel
theorem dXP_rebuild_72 : decode cXP_rebuild 72 = .ok (.dup, 1) := by decide +kernel
theorem dXP_rebuild_73 : decode cXP_rebuild 73 = .ok (.getfield 95, 3) := by decide +kernel
theorem dXP_rebuild_76 : decode cXP_rebuild 76 = .ok (.iconst 1, 1) := by decide +kernel
theorem dXP_rebuild_77 : decode cXP_rebuild 77 = .ok (.iadd, 1) := by decide +kernel
theorem dXP_rebuild_78 : decode cXP_rebuild 78 = .ok (.putfield 95, 3) := by decide +kernel
theorem dXP_rebuild_81 : decode cXP_rebuild 81 = .ok (.sipush 150, 3) := by decide +kernel
theorem dXP_rebuild_84 : decode cXP_rebuild 84 = .ok (.aload_n 0, 1) := by decide +kernel
theorem dXP_rebuild_85 : decode cXP_rebuild 85 = .ok (.getfield 11, 3) := by decide +kernel
theorem dXP_rebuild_88 : decode cXP_rebuild 88 = .ok (.iload_n 1, 1) := by decide +kernel
theorem dXP_rebuild_89 : decode cXP_rebuild 89 = .ok (.aaload, 1) := by decide +kernel
theorem dXP_rebuild_90 : decode cXP_rebuild 90 = .ok (.getfield 95, 3) := by decide +kernel
theorem dXP_rebuild_93 : decode cXP_rebuild 93 = .ok (.isub, 1) := by decide +kernel
theorem dXP_rebuild_94 : decode cXP_rebuild 94 = .ok (.ireturn, 1) := by decide +kernel
def yXP_rebuildStripe : MethodName := ⟨"ParityArray", "rebuildStripe", "(II)V"⟩
abbrev cXP_rebuildStripe : ByteArray := prog_1_method_21_code
def wsXP_rebuildStripe : List Cond := .code yXP_rebuildStripe cXP_rebuildStripe 4 (none : Option Jvm.ClassFile.FieldType) :: pz_G
theorem tcXP_rebuildStripe : (.code yXP_rebuildStripe cXP_rebuildStripe 4 (none : Option Jvm.ClassFile.FieldType) : Cond) ∈ pz_G := tw_320
theorem dXP_rebuildStripe_0 : decode cXP_rebuildStripe 0 = .ok (.iconst 0, 1) := by decide +kernel
theorem dXP_rebuildStripe_1 : decode cXP_rebuildStripe 1 = .ok (.istore_n 3, 1) := by decide +kernel
theorem dXP_rebuildStripe_2 : decode cXP_rebuildStripe 2 = .ok (.iload_n 3, 1) := by decide +kernel
theorem dXP_rebuildStripe_3 : decode cXP_rebuildStripe 3 = .ok (.bipush 16, 2) := by decide +kernel
theorem dXP_rebuildStripe_5 : decode cXP_rebuildStripe 5 = .ok (.if_icmp .ge 22, 3) := by decide +kernel
theorem dXP_rebuildStripe_8 : decode cXP_rebuildStripe 8 = .ok (.aload_n 0, 1) := by decide +kernel
theorem dXP_rebuildStripe_9 : decode cXP_rebuildStripe 9 = .ok (.getfield 22, 3) := by decide +kernel
theorem dXP_rebuildStripe_12 : decode cXP_rebuildStripe 12 = .ok (.iload_n 3, 1) := by decide +kernel
theorem dXP_rebuildStripe_13 : decode cXP_rebuildStripe 13 = .ok (.aload_n 0, 1) := by decide +kernel
theorem dXP_rebuildStripe_14 : decode cXP_rebuildStripe 14 = .ok (.iload_n 1, 1) := by decide +kernel
theorem dXP_rebuildStripe_15 : decode cXP_rebuildStripe 15 = .ok (.iload_n 2, 1) := by decide +kernel
theorem dXP_rebuildStripe_16 : decode cXP_rebuildStripe 16 = .ok (.iload_n 3, 1) := by decide +kernel
theorem dXP_rebuildStripe_17 : decode cXP_rebuildStripe 17 = .ok (.invokevirtual 147, 3) := by decide +kernel
theorem dXP_rebuildStripe_20 : decode cXP_rebuildStripe 20 = .ok (.lastore, 1) := by decide +kernel
theorem dXP_rebuildStripe_21 : decode cXP_rebuildStripe 21 = .ok (.iinc 3 1, 3) := by decide +kernel
theorem dXP_rebuildStripe_24 : decode cXP_rebuildStripe 24 = .ok (.goto (-22), 3) := by decide +kernel
theorem dXP_rebuildStripe_27 : decode cXP_rebuildStripe 27 = .ok (.aload_n 0, 1) := by decide +kernel
theorem dXP_rebuildStripe_28 : decode cXP_rebuildStripe 28 = .ok (.getfield 11, 3) := by decide +kernel
theorem dXP_rebuildStripe_31 : decode cXP_rebuildStripe 31 = .ok (.iload_n 1, 1) := by decide +kernel
theorem dXP_rebuildStripe_32 : decode cXP_rebuildStripe 32 = .ok (.aaload, 1) := by decide +kernel
theorem dXP_rebuildStripe_33 : decode cXP_rebuildStripe 33 = .ok (.iload_n 2, 1) := by decide +kernel
theorem dXP_rebuildStripe_34 : decode cXP_rebuildStripe 34 = .ok (.aload_n 0, 1) := by decide +kernel
theorem dXP_rebuildStripe_35 : decode cXP_rebuildStripe 35 = .ok (.getfield 22, 3) := by decide +kernel
theorem dXP_rebuildStripe_38 : decode cXP_rebuildStripe 38 = .ok (.sipush 128, 3) := by decide +kernel
theorem dXP_rebuildStripe_41 : decode cXP_rebuildStripe 41 = .ok (.invokevirtual 158, 3) := by decide +kernel
theorem dXP_rebuildStripe_44 : decode cXP_rebuildStripe 44 = .ok (.return_, 1) := by decide +kernel
def yXP_power : MethodName := ⟨"ParityArray", "power", "(IIZ)V"⟩
abbrev cXP_power : ByteArray := prog_1_method_7_code
def wsXP_power : List Cond := .code yXP_power cXP_power 4 (none : Option Jvm.ClassFile.FieldType) :: pz_G
theorem tcXP_power : (.code yXP_power cXP_power 4 (none : Option Jvm.ClassFile.FieldType) : Cond) ∈ pz_G := tw_328
theorem dXP_power_0 : decode cXP_power 0 = .ok (.iload_n 1, 1) := by decide +kernel
theorem dXP_power_1 : decode cXP_power 1 = .ok (.ifCond .lt 9, 3) := by decide +kernel
theorem dXP_power_4 : decode cXP_power 4 = .ok (.iload_n 1, 1) := by decide +kernel
theorem dXP_power_5 : decode cXP_power 5 = .ok (.bipush 10, 2) := by decide +kernel
theorem dXP_power_7 : decode cXP_power 7 = .ok (.if_icmp .le 13, 3) := by decide +kernel
theorem dXP_power_10 : decode cXP_power 10 = .ok (.new 103, 3) := by decide +kernel
theorem dXP_power_13 : decode cXP_power 13 = .ok (.dup, 1) := by decide +kernel
theorem dXP_power_14 : decode cXP_power 14 = .ok (.ldc 105, 2) := by decide +kernel
theorem dXP_power_16 : decode cXP_power 16 = .ok (.invokespecial 107, 3) := by decide +kernel
theorem dXP_power_19 : decode cXP_power 19 = .ok (.athrow, 1) := by decide +kernel
theorem dXP_power_20 : decode cXP_power 20 = .ok (.iload_n 2, 1) := by decide +kernel
theorem dXP_power_21 : decode cXP_power 21 = .ok (.ifCond .lt 10, 3) := by decide +kernel
theorem dXP_power_24 : decode cXP_power 24 = .ok (.iload_n 2, 1) := by decide +kernel
theorem dXP_power_25 : decode cXP_power 25 = .ok (.sipush 200, 3) := by decide +kernel
theorem dXP_power_28 : decode cXP_power 28 = .ok (.if_icmp .le 13, 3) := by decide +kernel
theorem dXP_power_31 : decode cXP_power 31 = .ok (.new 103, 3) := by decide +kernel
theorem dXP_power_34 : decode cXP_power 34 = .ok (.dup, 1) := by decide +kernel
theorem dXP_power_35 : decode cXP_power 35 = .ok (.ldc 108, 2) := by decide +kernel
theorem dXP_power_37 : decode cXP_power 37 = .ok (.invokespecial 107, 3) := by decide +kernel
theorem dXP_power_40 : decode cXP_power 40 = .ok (.athrow, 1) := by decide +kernel
theorem dXP_power_41 : decode cXP_power 41 = .ok (.aload_n 0, 1) := by decide +kernel
theorem dXP_power_42 : decode cXP_power 42 = .ok (.getfield 18, 3) := by decide +kernel
theorem dXP_power_45 : decode cXP_power 45 = .ok (.iload_n 1, 1) := by decide +kernel
theorem dXP_power_46 : decode cXP_power 46 = .ok (.iload_n 2, 1) := by decide +kernel
theorem dXP_power_47 : decode cXP_power 47 = .ok (.iload_n 3, 1) := by decide +kernel
theorem dXP_power_48 : decode cXP_power 48 = .ok (.invokevirtual 110, 3) := by decide +kernel
theorem dXP_power_51 : decode cXP_power 51 = .ok (.return_, 1) := by decide +kernel
def yXP_recover : MethodName := ⟨"ParityArray", "recover", "()V"⟩
abbrev cXP_recover : ByteArray := prog_1_method_8_code
def wsXP_recover : List Cond := .code yXP_recover cXP_recover 2 (none : Option Jvm.ClassFile.FieldType) :: pz_G
theorem tcXP_recover : (.code yXP_recover cXP_recover 2 (none : Option Jvm.ClassFile.FieldType) : Cond) ∈ pz_G := tw_356
theorem dXP_recover_0 : decode cXP_recover 0 = .ok (.aload_n 0, 1) := by decide +kernel
theorem dXP_recover_1 : decode cXP_recover 1 = .ok (.getfield 18, 3) := by decide +kernel
theorem dXP_recover_4 : decode cXP_recover 4 = .ok (.iconst 1, 1) := by decide +kernel
theorem dXP_recover_5 : decode cXP_recover 5 = .ok (.putfield 33, 3) := by decide +kernel
theorem dXP_recover_8 : decode cXP_recover 8 = .ok (.aload_n 0, 1) := by decide +kernel
theorem dXP_recover_9 : decode cXP_recover 9 = .ok (.getfield 18, 3) := by decide +kernel
theorem dXP_recover_12 : decode cXP_recover 12 = .ok (.iconst 1, 1) := by decide +kernel
theorem dXP_recover_13 : decode cXP_recover 13 = .ok (.invokevirtual 61, 3) := by decide +kernel
theorem dXP_recover_16 : decode cXP_recover 16 = .ok (.iconst 0, 1) := by decide +kernel
theorem dXP_recover_17 : decode cXP_recover 17 = .ok (.istore_n 1, 1) := by decide +kernel
theorem dXP_recover_18 : decode cXP_recover 18 = .ok (.iload_n 1, 1) := by decide +kernel
theorem dXP_recover_19 : decode cXP_recover 19 = .ok (.iconst 5, 1) := by decide +kernel
theorem dXP_recover_20 : decode cXP_recover 20 = .ok (.if_icmp .ge 19, 3) := by decide +kernel
theorem dXP_recover_23 : decode cXP_recover 23 = .ok (.aload_n 0, 1) := by decide +kernel
theorem dXP_recover_24 : decode cXP_recover 24 = .ok (.aload_n 0, 1) := by decide +kernel
theorem dXP_recover_25 : decode cXP_recover 25 = .ok (.getfield 11, 3) := by decide +kernel
theorem dXP_recover_28 : decode cXP_recover 28 = .ok (.iload_n 1, 1) := by decide +kernel
theorem dXP_recover_29 : decode cXP_recover 29 = .ok (.aaload, 1) := by decide +kernel
theorem dXP_recover_30 : decode cXP_recover 30 = .ok (.invokevirtual 114, 3) := by decide +kernel
theorem dXP_recover_33 : decode cXP_recover 33 = .ok (.iinc 1 1, 3) := by decide +kernel
theorem dXP_recover_36 : decode cXP_recover 36 = .ok (.goto (-18), 3) := by decide +kernel
theorem dXP_recover_39 : decode cXP_recover 39 = .ok (.aload_n 0, 1) := by decide +kernel
theorem dXP_recover_40 : decode cXP_recover 40 = .ok (.getfield 18, 3) := by decide +kernel
theorem dXP_recover_43 : decode cXP_recover 43 = .ok (.invokevirtual 69, 3) := by decide +kernel
theorem dXP_recover_46 : decode cXP_recover 46 = .ok (.aload_n 0, 1) := by decide +kernel
theorem dXP_recover_47 : decode cXP_recover 47 = .ok (.getfield 18, 3) := by decide +kernel
theorem dXP_recover_50 : decode cXP_recover 50 = .ok (.invokevirtual 118, 3) := by decide +kernel
theorem dXP_recover_53 : decode cXP_recover 53 = .ok (.aload_n 0, 1) := by decide +kernel
theorem dXP_recover_54 : decode cXP_recover 54 = .ok (.getfield 18, 3) := by decide +kernel
theorem dXP_recover_57 : decode cXP_recover 57 = .ok (.getfield 33, 3) := by decide +kernel
theorem dXP_recover_60 : decode cXP_recover 60 = .ok (.ifCond .ne 13, 3) := by decide +kernel
theorem dXP_recover_63 : decode cXP_recover 63 = .ok (.new 72, 3) := by decide +kernel
theorem dXP_recover_66 : decode cXP_recover 66 = .ok (.dup, 1) := by decide +kernel
theorem dXP_recover_67 : decode cXP_recover 67 = .ok (.ldc 74, 2) := by decide +kernel
theorem dXP_recover_69 : decode cXP_recover 69 = .ok (.invokespecial 76, 3) := by decide +kernel
theorem dXP_recover_72 : decode cXP_recover 72 = .ok (.athrow, 1) := by decide +kernel
theorem dXP_recover_73 : decode cXP_recover 73 = .ok (.return_, 1) := by decide +kernel
def yXP_mendParity : MethodName := ⟨"ParityArray", "mendParity", "(LParityArray$Disk;)V"⟩
abbrev cXP_mendParity : ByteArray := prog_1_method_20_code
def wsXP_mendParity : List Cond := .code yXP_mendParity cXP_mendParity 6 (none : Option Jvm.ClassFile.FieldType) :: pz_G
theorem tcXP_mendParity : (.code yXP_mendParity cXP_mendParity 6 (none : Option Jvm.ClassFile.FieldType) : Cond) ∈ pz_G := tw_360
theorem dXP_mendParity_0 : decode cXP_mendParity 0 = .ok (.aload_n 1, 1) := by decide +kernel
theorem dXP_mendParity_1 : decode cXP_mendParity 1 = .ok (.getfield 161, 3) := by decide +kernel
theorem dXP_mendParity_4 : decode cXP_mendParity 4 = .ok (.istore_n 2, 1) := by decide +kernel
theorem dXP_mendParity_5 : decode cXP_mendParity 5 = .ok (.iload_n 2, 1) := by decide +kernel
theorem dXP_mendParity_6 : decode cXP_mendParity 6 = .ok (.iconst (-1), 1) := by decide +kernel
theorem dXP_mendParity_7 : decode cXP_mendParity 7 = .ok (.if_icmp .ne 4, 3) := by decide +kernel
theorem dXP_mendParity_10 : decode cXP_mendParity 10 = .ok (.return_, 1) := by decide +kernel
theorem dXP_mendParity_11 : decode cXP_mendParity 11 = .ok (.iload_n 2, 1) := by decide +kernel
theorem dXP_mendParity_12 : decode cXP_mendParity 12 = .ok (.invokestatic 127, 3) := by decide +kernel
theorem dXP_mendParity_15 : decode cXP_mendParity 15 = .ok (.istore_n 3, 1) := by decide +kernel
theorem dXP_mendParity_16 : decode cXP_mendParity 16 = .ok (.aload_n 0, 1) := by decide +kernel
theorem dXP_mendParity_17 : decode cXP_mendParity 17 = .ok (.getfield 11, 3) := by decide +kernel
theorem dXP_mendParity_20 : decode cXP_mendParity 20 = .ok (.iload_n 2, 1) := by decide +kernel
theorem dXP_mendParity_21 : decode cXP_mendParity 21 = .ok (.invokestatic 138, 3) := by decide +kernel
theorem dXP_mendParity_24 : decode cXP_mendParity 24 = .ok (.aaload, 1) := by decide +kernel
theorem dXP_mendParity_25 : decode cXP_mendParity 25 = .ok (.astore 4, 2) := by decide +kernel
theorem dXP_mendParity_27 : decode cXP_mendParity 27 = .ok (.aload 4, 2) := by decide +kernel
theorem dXP_mendParity_29 : decode cXP_mendParity 29 = .ok (.iload_n 3, 1) := by decide +kernel
theorem dXP_mendParity_30 : decode cXP_mendParity 30 = .ok (.invokevirtual 141, 3) := by decide +kernel
theorem dXP_mendParity_33 : decode cXP_mendParity 33 = .ok (.ifCond .ne 4, 3) := by decide +kernel
theorem dXP_mendParity_36 : decode cXP_mendParity 36 = .ok (.return_, 1) := by decide +kernel
theorem dXP_mendParity_37 : decode cXP_mendParity 37 = .ok (.iconst 0, 1) := by decide +kernel
theorem dXP_mendParity_38 : decode cXP_mendParity 38 = .ok (.istore 5, 2) := by decide +kernel
theorem dXP_mendParity_40 : decode cXP_mendParity 40 = .ok (.iload 5, 2) := by decide +kernel
theorem dXP_mendParity_42 : decode cXP_mendParity 42 = .ok (.bipush 16, 2) := by decide +kernel
theorem dXP_mendParity_44 : decode cXP_mendParity 44 = .ok (.if_icmp .ge 32, 3) := by decide +kernel
theorem dXP_mendParity_47 : decode cXP_mendParity 47 = .ok (.aload_n 0, 1) := by decide +kernel
theorem dXP_mendParity_48 : decode cXP_mendParity 48 = .ok (.getfield 29, 3) := by decide +kernel
theorem dXP_mendParity_51 : decode cXP_mendParity 51 = .ok (.iload 5, 2) := by decide +kernel
theorem dXP_mendParity_53 : decode cXP_mendParity 53 = .ok (.aload_n 1, 1) := by decide +kernel
theorem dXP_mendParity_54 : decode cXP_mendParity 54 = .ok (.getfield 164, 3) := by decide +kernel
theorem dXP_mendParity_57 : decode cXP_mendParity 57 = .ok (.iload 5, 2) := by decide +kernel
theorem dXP_mendParity_59 : decode cXP_mendParity 59 = .ok (.laload, 1) := by decide +kernel
theorem dXP_mendParity_60 : decode cXP_mendParity 60 = .ok (.aload 4, 2) := by decide +kernel
theorem dXP_mendParity_62 : decode cXP_mendParity 62 = .ok (.iload_n 3, 1) := by decide +kernel
theorem dXP_mendParity_63 : decode cXP_mendParity 63 = .ok (.iload 5, 2) := by decide +kernel
theorem dXP_mendParity_65 : decode cXP_mendParity 65 = .ok (.invokevirtual 144, 3) := by decide +kernel
theorem dXP_mendParity_68 : decode cXP_mendParity 68 = .ok (.lxor, 1) := by decide +kernel
theorem dXP_mendParity_69 : decode cXP_mendParity 69 = .ok (.lastore, 1) := by decide +kernel
theorem dXP_mendParity_70 : decode cXP_mendParity 70 = .ok (.iinc 5 1, 3) := by decide +kernel
theorem dXP_mendParity_73 : decode cXP_mendParity 73 = .ok (.goto (-33), 3) := by decide +kernel
theorem dXP_mendParity_76 : decode cXP_mendParity 76 = .ok (.aload_n 1, 1) := by decide +kernel
theorem dXP_mendParity_77 : decode cXP_mendParity 77 = .ok (.iload_n 3, 1) := by decide +kernel
theorem dXP_mendParity_78 : decode cXP_mendParity 78 = .ok (.aload_n 0, 1) := by decide +kernel
theorem dXP_mendParity_79 : decode cXP_mendParity 79 = .ok (.getfield 29, 3) := by decide +kernel
theorem dXP_mendParity_82 : decode cXP_mendParity 82 = .ok (.aload_n 0, 1) := by decide +kernel
theorem dXP_mendParity_83 : decode cXP_mendParity 83 = .ok (.getfield 18, 3) := by decide +kernel
theorem dXP_mendParity_86 : decode cXP_mendParity 86 = .ok (.sipush 128, 3) := by decide +kernel
theorem dXP_mendParity_89 : decode cXP_mendParity 89 = .ok (.invokevirtual 151, 3) := by decide +kernel
theorem dXP_mendParity_92 : decode cXP_mendParity 92 = .ok (.invokevirtual 158, 3) := by decide +kernel
theorem dXP_mendParity_95 : decode cXP_mendParity 95 = .ok (.return_, 1) := by decide +kernel
def yXP_told : MethodName := ⟨"ParityArray", "told", "(I)I"⟩
abbrev cXP_told : ByteArray := prog_1_method_9_code
def wsXP_told : List Cond := .code yXP_told cXP_told 3 (some .int) :: pz_G
theorem tcXP_told : (.code yXP_told cXP_told 3 (some .int) : Cond) ∈ pz_G := tw_371
theorem dXP_told_0 : decode cXP_told 0 = .ok (.aload_n 0, 1) := by decide +kernel
theorem dXP_told_1 : decode cXP_told 1 = .ok (.invokevirtual 79, 3) := by decide +kernel
theorem dXP_told_4 : decode cXP_told 4 = .ok (.istore_n 2, 1) := by decide +kernel
theorem dXP_told_5 : decode cXP_told 5 = .ok (.iload_n 1, 1) := by decide +kernel
theorem dXP_told_6 : decode cXP_told 6 = .ok (.tableswitch 90 0 3 #[30, 46, 48, 71], 30) := by decide +kernel
theorem dXP_told_36 : decode cXP_told 36 = .ok (.aload_n 0, 1) := by decide +kernel
theorem dXP_told_37 : decode cXP_told 37 = .ok (.getfield 18, 3) := by decide +kernel
theorem dXP_told_40 : decode cXP_told 40 = .ok (.getfield 33, 3) := by decide +kernel
theorem dXP_told_43 : decode cXP_told 43 = .ok (.ifCond .eq 7, 3) := by decide +kernel
theorem dXP_told_46 : decode cXP_told 46 = .ok (.iconst 1, 1) := by decide +kernel
theorem dXP_told_47 : decode cXP_told 47 = .ok (.goto 4, 3) := by decide +kernel
theorem dXP_told_50 : decode cXP_told 50 = .ok (.iconst 0, 1) := by decide +kernel
theorem dXP_told_51 : decode cXP_told 51 = .ok (.ireturn, 1) := by decide +kernel
theorem dXP_told_52 : decode cXP_told 52 = .ok (.iload_n 2, 1) := by decide +kernel
theorem dXP_told_53 : decode cXP_told 53 = .ok (.ireturn, 1) := by decide +kernel
theorem dXP_told_54 : decode cXP_told 54 = .ok (.iload_n 2, 1) := by decide +kernel
theorem dXP_told_55 : decode cXP_told 55 = .ok (.iconst (-1), 1) := by decide +kernel
theorem dXP_told_56 : decode cXP_told 56 = .ok (.if_icmp .eq 19, 3) := by decide +kernel
theorem dXP_told_59 : decode cXP_told 59 = .ok (.aload_n 0, 1) := by decide +kernel
theorem dXP_told_60 : decode cXP_told 60 = .ok (.getfield 11, 3) := by decide +kernel
theorem dXP_told_63 : decode cXP_told 63 = .ok (.iload_n 2, 1) := by decide +kernel
theorem dXP_told_64 : decode cXP_told 64 = .ok (.aaload, 1) := by decide +kernel
theorem dXP_told_65 : decode cXP_told 65 = .ok (.getfield 88, 3) := by decide +kernel
theorem dXP_told_68 : decode cXP_told 68 = .ok (.ifCond .ne 7, 3) := by decide +kernel
theorem dXP_told_71 : decode cXP_told 71 = .ok (.iconst 1, 1) := by decide +kernel
theorem dXP_told_72 : decode cXP_told 72 = .ok (.goto 4, 3) := by decide +kernel
theorem dXP_told_75 : decode cXP_told 75 = .ok (.iconst 0, 1) := by decide +kernel
theorem dXP_told_76 : decode cXP_told 76 = .ok (.ireturn, 1) := by decide +kernel
theorem dXP_told_77 : decode cXP_told 77 = .ok (.iload_n 2, 1) := by decide +kernel
theorem dXP_told_78 : decode cXP_told 78 = .ok (.iconst (-1), 1) := by decide +kernel
theorem dXP_told_79 : decode cXP_told 79 = .ok (.if_icmp .eq 15, 3) := by decide +kernel
theorem dXP_told_82 : decode cXP_told 82 = .ok (.aload_n 0, 1) := by decide +kernel
theorem dXP_told_83 : decode cXP_told 83 = .ok (.getfield 11, 3) := by decide +kernel
theorem dXP_told_86 : decode cXP_told 86 = .ok (.iload_n 2, 1) := by decide +kernel
theorem dXP_told_87 : decode cXP_told 87 = .ok (.aaload, 1) := by decide +kernel
theorem dXP_told_88 : decode cXP_told 88 = .ok (.getfield 95, 3) := by decide +kernel
theorem dXP_told_91 : decode cXP_told 91 = .ok (.goto 4, 3) := by decide +kernel
theorem dXP_told_94 : decode cXP_told 94 = .ok (.iconst 0, 1) := by decide +kernel
theorem dXP_told_95 : decode cXP_told 95 = .ok (.ireturn, 1) := by decide +kernel
theorem dXP_told_96 : decode cXP_told 96 = .ok (.new 103, 3) := by decide +kernel
theorem dXP_told_99 : decode cXP_told 99 = .ok (.dup, 1) := by decide +kernel
theorem dXP_told_100 : decode cXP_told 100 = .ok (.ldc 121, 2) := by decide +kernel
theorem dXP_told_102 : decode cXP_told 102 = .ok (.invokespecial 107, 3) := by decide +kernel
theorem dXP_told_105 : decode cXP_told 105 = .ok (.athrow, 1) := by decide +kernel
def yXP_check : MethodName := ⟨"ParityArray", "check", "()I"⟩
abbrev cXP_check : ByteArray := prog_1_method_10_code
def wsXP_check : List Cond := .code yXP_check cXP_check 3 (some .int) :: pz_G
theorem tcXP_check : (.code yXP_check cXP_check 3 (some .int) : Cond) ∈ pz_G := tw_379
theorem dXP_check_0 : decode cXP_check 0 = .ok (.aload_n 0, 1) := by decide +kernel
theorem dXP_check_1 : decode cXP_check 1 = .ok (.getfield 18, 3) := by decide +kernel
theorem dXP_check_4 : decode cXP_check 4 = .ok (.getfield 33, 3) := by decide +kernel
theorem dXP_check_7 : decode cXP_check 7 = .ok (.ifCond .ne 13, 3) := by decide +kernel
theorem dXP_check_10 : decode cXP_check 10 = .ok (.new 37, 3) := by decide +kernel
theorem dXP_check_13 : decode cXP_check 13 = .ok (.dup, 1) := by decide +kernel
theorem dXP_check_14 : decode cXP_check 14 = .ok (.ldc 39, 2) := by decide +kernel
theorem dXP_check_16 : decode cXP_check 16 = .ok (.invokespecial 41, 3) := by decide +kernel
theorem dXP_check_19 : decode cXP_check 19 = .ok (.athrow, 1) := by decide +kernel
theorem dXP_check_20 : decode cXP_check 20 = .ok (.aload_n 0, 1) := by decide +kernel
theorem dXP_check_21 : decode cXP_check 21 = .ok (.invokevirtual 79, 3) := by decide +kernel
theorem dXP_check_24 : decode cXP_check 24 = .ok (.iconst (-1), 1) := by decide +kernel
theorem dXP_check_25 : decode cXP_check 25 = .ok (.if_icmp .eq 5, 3) := by decide +kernel
theorem dXP_check_28 : decode cXP_check 28 = .ok (.iconst 0, 1) := by decide +kernel
theorem dXP_check_29 : decode cXP_check 29 = .ok (.ireturn, 1) := by decide +kernel
theorem dXP_check_30 : decode cXP_check 30 = .ok (.iconst 0, 1) := by decide +kernel
theorem dXP_check_31 : decode cXP_check 31 = .ok (.istore_n 1, 1) := by decide +kernel
theorem dXP_check_32 : decode cXP_check 32 = .ok (.iconst 0, 1) := by decide +kernel
theorem dXP_check_33 : decode cXP_check 33 = .ok (.istore_n 2, 1) := by decide +kernel
theorem dXP_check_34 : decode cXP_check 34 = .ok (.iload_n 2, 1) := by decide +kernel
theorem dXP_check_35 : decode cXP_check 35 = .ok (.sipush 150, 3) := by decide +kernel
theorem dXP_check_38 : decode cXP_check 38 = .ok (.if_icmp .ge 20, 3) := by decide +kernel
theorem dXP_check_41 : decode cXP_check 41 = .ok (.aload_n 0, 1) := by decide +kernel
theorem dXP_check_42 : decode cXP_check 42 = .ok (.iload_n 2, 1) := by decide +kernel
theorem dXP_check_43 : decode cXP_check 43 = .ok (.invokevirtual 123, 3) := by decide +kernel
theorem dXP_check_46 : decode cXP_check 46 = .ok (.ifCond .ne 6, 3) := by decide +kernel
theorem dXP_check_49 : decode cXP_check 49 = .ok (.iinc 1 1, 3) := by decide +kernel
theorem dXP_check_52 : decode cXP_check 52 = .ok (.iinc 2 1, 3) := by decide +kernel
theorem dXP_check_55 : decode cXP_check 55 = .ok (.goto (-21), 3) := by decide +kernel
theorem dXP_check_58 : decode cXP_check 58 = .ok (.iload_n 1, 1) := by decide +kernel
theorem dXP_check_59 : decode cXP_check 59 = .ok (.ireturn, 1) := by decide +kernel
def yXP_isParityRight : MethodName := ⟨"ParityArray", "isParityRight", "(I)Z"⟩
abbrev cXP_isParityRight : ByteArray := prog_1_method_22_code
def wsXP_isParityRight : List Cond := .code yXP_isParityRight cXP_isParityRight 4 (some .boolean) :: pz_G
theorem tcXP_isParityRight : (.code yXP_isParityRight cXP_isParityRight 4 (some .boolean) : Cond) ∈ pz_G := tw_383
theorem dXP_isParityRight_0 : decode cXP_isParityRight 0 = .ok (.iload_n 1, 1) := by decide +kernel
theorem dXP_isParityRight_1 : decode cXP_isParityRight 1 = .ok (.invokestatic 131, 3) := by decide +kernel
theorem dXP_isParityRight_4 : decode cXP_isParityRight 4 = .ok (.istore_n 2, 1) := by decide +kernel
theorem dXP_isParityRight_5 : decode cXP_isParityRight 5 = .ok (.iconst 0, 1) := by decide +kernel
theorem dXP_isParityRight_6 : decode cXP_isParityRight 6 = .ok (.istore_n 3, 1) := by decide +kernel
theorem dXP_isParityRight_7 : decode cXP_isParityRight 7 = .ok (.iload_n 3, 1) := by decide +kernel
theorem dXP_isParityRight_8 : decode cXP_isParityRight 8 = .ok (.bipush 16, 2) := by decide +kernel
theorem dXP_isParityRight_10 : decode cXP_isParityRight 10 = .ok (.if_icmp .ge 33, 3) := by decide +kernel
theorem dXP_isParityRight_13 : decode cXP_isParityRight 13 = .ok (.aload_n 0, 1) := by decide +kernel
theorem dXP_isParityRight_14 : decode cXP_isParityRight 14 = .ok (.getfield 11, 3) := by decide +kernel
theorem dXP_isParityRight_17 : decode cXP_isParityRight 17 = .ok (.iload_n 2, 1) := by decide +kernel
theorem dXP_isParityRight_18 : decode cXP_isParityRight 18 = .ok (.aaload, 1) := by decide +kernel
theorem dXP_isParityRight_19 : decode cXP_isParityRight 19 = .ok (.iload_n 1, 1) := by decide +kernel
theorem dXP_isParityRight_20 : decode cXP_isParityRight 20 = .ok (.iload_n 3, 1) := by decide +kernel
theorem dXP_isParityRight_21 : decode cXP_isParityRight 21 = .ok (.invokevirtual 144, 3) := by decide +kernel
theorem dXP_isParityRight_24 : decode cXP_isParityRight 24 = .ok (.aload_n 0, 1) := by decide +kernel
theorem dXP_isParityRight_25 : decode cXP_isParityRight 25 = .ok (.iload_n 2, 1) := by decide +kernel
theorem dXP_isParityRight_26 : decode cXP_isParityRight 26 = .ok (.iload_n 1, 1) := by decide +kernel
theorem dXP_isParityRight_27 : decode cXP_isParityRight 27 = .ok (.iload_n 3, 1) := by decide +kernel
theorem dXP_isParityRight_28 : decode cXP_isParityRight 28 = .ok (.invokevirtual 147, 3) := by decide +kernel
theorem dXP_isParityRight_31 : decode cXP_isParityRight 31 = .ok (.lcmp, 1) := by decide +kernel
theorem dXP_isParityRight_32 : decode cXP_isParityRight 32 = .ok (.ifCond .eq 5, 3) := by decide +kernel
theorem dXP_isParityRight_35 : decode cXP_isParityRight 35 = .ok (.iconst 0, 1) := by decide +kernel
theorem dXP_isParityRight_36 : decode cXP_isParityRight 36 = .ok (.ireturn, 1) := by decide +kernel
theorem dXP_isParityRight_37 : decode cXP_isParityRight 37 = .ok (.iinc 3 1, 3) := by decide +kernel
theorem dXP_isParityRight_40 : decode cXP_isParityRight 40 = .ok (.goto (-33), 3) := by decide +kernel
theorem dXP_isParityRight_43 : decode cXP_isParityRight 43 = .ok (.iconst 1, 1) := by decide +kernel
theorem dXP_isParityRight_44 : decode cXP_isParityRight 44 = .ok (.ireturn, 1) := by decide +kernel
