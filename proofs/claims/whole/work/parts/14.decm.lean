/-! methods: names, code, words, decode rows (written by a program) -/
def yXM_init : MethodName := ⟨"ParityArrayModel", "<init>", "()V"⟩
abbrev cXM_init : ByteArray := prog_5_method_1_code
def wsXM_init : List Cond := .code yXM_init cXM_init 1 (none : Option Jvm.ClassFile.FieldType) :: pz_G
theorem tcXM_init : (.code yXM_init cXM_init 1 (none : Option Jvm.ClassFile.FieldType) : Cond) ∈ pz_G := tw_388
theorem dXM_init_0 : decode cXM_init 0 = .ok (.aload_n 0, 1) := by decide +kernel
theorem dXM_init_1 : decode cXM_init 1 = .ok (.invokespecial 1, 3) := by decide +kernel
theorem dXM_init_4 : decode cXM_init 4 = .ok (.aload_n 0, 1) := by decide +kernel
theorem dXM_init_5 : decode cXM_init 5 = .ok (.ldc 7, 2) := by decide +kernel
theorem dXM_init_7 : decode cXM_init 7 = .ok (.newarray .byte, 2) := by decide +kernel
theorem dXM_init_9 : decode cXM_init 9 = .ok (.putfield 8, 3) := by decide +kernel
theorem dXM_init_12 : decode cXM_init 12 = .ok (.aload_n 0, 1) := by decide +kernel
theorem dXM_init_13 : decode cXM_init 13 = .ok (.iconst 1, 1) := by decide +kernel
theorem dXM_init_14 : decode cXM_init 14 = .ok (.putfield 14, 3) := by decide +kernel
theorem dXM_init_17 : decode cXM_init 17 = .ok (.aload_n 0, 1) := by decide +kernel
theorem dXM_init_18 : decode cXM_init 18 = .ok (.iconst (-1), 1) := by decide +kernel
theorem dXM_init_19 : decode cXM_init 19 = .ok (.putfield 18, 3) := by decide +kernel
theorem dXM_init_22 : decode cXM_init 22 = .ok (.return_, 1) := by decide +kernel
def yXM_thrown : MethodName := ⟨"ParityArrayModel", "thrown", "()I"⟩
abbrev cXM_thrown : ByteArray := prog_5_method_2_code
def wsXM_thrown : List Cond := .code yXM_thrown cXM_thrown 1 (some .int) :: pz_G
theorem tcXM_thrown : (.code yXM_thrown cXM_thrown 1 (some .int) : Cond) ∈ pz_G := tw_422
theorem dXM_thrown_0 : decode cXM_thrown 0 = .ok (.aload_n 0, 1) := by decide +kernel
theorem dXM_thrown_1 : decode cXM_thrown 1 = .ok (.getfield 22, 3) := by decide +kernel
theorem dXM_thrown_4 : decode cXM_thrown 4 = .ok (.ireturn, 1) := by decide +kernel
def yXM_set : MethodName := ⟨"ParityArrayModel", "set", "(IIJ)J"⟩
abbrev cXM_set : ByteArray := prog_5_method_7_code
def wsXM_set : List Cond := .code yXM_set cXM_set 11 (some .long) :: pz_G
theorem tcXM_set : (.code yXM_set cXM_set 11 (some .long) : Cond) ∈ pz_G := tw_426
theorem dXM_set_0 : decode cXM_set 0 = .ok (.aload_n 0, 1) := by decide +kernel
theorem dXM_set_1 : decode cXM_set 1 = .ok (.getfield 14, 3) := by decide +kernel
theorem dXM_set_4 : decode cXM_set 4 = .ok (.ifCond .ne 10, 3) := by decide +kernel
theorem dXM_set_7 : decode cXM_set 7 = .ok (.aload_n 0, 1) := by decide +kernel
theorem dXM_set_8 : decode cXM_set 8 = .ok (.iconst 1, 1) := by decide +kernel
theorem dXM_set_9 : decode cXM_set 9 = .ok (.invokevirtual 41, 3) := by decide +kernel
theorem dXM_set_12 : decode cXM_set 12 = .ok (.i2l, 1) := by decide +kernel
theorem dXM_set_13 : decode cXM_set 13 = .ok (.lreturn, 1) := by decide +kernel
theorem dXM_set_14 : decode cXM_set 14 = .ok (.iload_n 1, 1) := by decide +kernel
theorem dXM_set_15 : decode cXM_set 15 = .ok (.ifCond .lt 20, 3) := by decide +kernel
theorem dXM_set_18 : decode cXM_set 18 = .ok (.iload_n 1, 1) := by decide +kernel
theorem dXM_set_19 : decode cXM_set 19 = .ok (.sipush 600, 3) := by decide +kernel
theorem dXM_set_22 : decode cXM_set 22 = .ok (.if_icmp .ge 13, 3) := by decide +kernel
theorem dXM_set_25 : decode cXM_set 25 = .ok (.iload_n 2, 1) := by decide +kernel
theorem dXM_set_26 : decode cXM_set 26 = .ok (.ifCond .lt 9, 3) := by decide +kernel
theorem dXM_set_29 : decode cXM_set 29 = .ok (.iload_n 2, 1) := by decide +kernel
theorem dXM_set_30 : decode cXM_set 30 = .ok (.bipush 16, 2) := by decide +kernel
theorem dXM_set_32 : decode cXM_set 32 = .ok (.if_icmp .lt 10, 3) := by decide +kernel
theorem dXM_set_35 : decode cXM_set 35 = .ok (.aload_n 0, 1) := by decide +kernel
theorem dXM_set_36 : decode cXM_set 36 = .ok (.iconst 2, 1) := by decide +kernel
theorem dXM_set_37 : decode cXM_set 37 = .ok (.invokevirtual 41, 3) := by decide +kernel
theorem dXM_set_40 : decode cXM_set 40 = .ok (.i2l, 1) := by decide +kernel
theorem dXM_set_41 : decode cXM_set 41 = .ok (.lreturn, 1) := by decide +kernel
theorem dXM_set_42 : decode cXM_set 42 = .ok (.iload_n 1, 1) := by decide +kernel
theorem dXM_set_43 : decode cXM_set 43 = .ok (.sipush 128, 3) := by decide +kernel
theorem dXM_set_46 : decode cXM_set 46 = .ok (.imul, 1) := by decide +kernel
theorem dXM_set_47 : decode cXM_set 47 = .ok (.bipush 8, 2) := by decide +kernel
theorem dXM_set_49 : decode cXM_set 49 = .ok (.iload_n 2, 1) := by decide +kernel
theorem dXM_set_50 : decode cXM_set 50 = .ok (.imul, 1) := by decide +kernel
theorem dXM_set_51 : decode cXM_set 51 = .ok (.iadd, 1) := by decide +kernel
theorem dXM_set_52 : decode cXM_set 52 = .ok (.istore 5, 2) := by decide +kernel
theorem dXM_set_54 : decode cXM_set 54 = .ok (.aload_n 0, 1) := by decide +kernel
theorem dXM_set_55 : decode cXM_set 55 = .ok (.iload 5, 2) := by decide +kernel
theorem dXM_set_57 : decode cXM_set 57 = .ok (.invokevirtual 45, 3) := by decide +kernel
theorem dXM_set_60 : decode cXM_set 60 = .ok (.lstore 6, 2) := by decide +kernel
theorem dXM_set_62 : decode cXM_set 62 = .ok (.aload_n 0, 1) := by decide +kernel
theorem dXM_set_63 : decode cXM_set 63 = .ok (.getfield 49, 3) := by decide +kernel
theorem dXM_set_66 : decode cXM_set 66 = .ok (.iconst 1, 1) := by decide +kernel
theorem dXM_set_67 : decode cXM_set 67 = .ok (.if_icmp .ne 7, 3) := by decide +kernel
theorem dXM_set_70 : decode cXM_set 70 = .ok (.iconst 1, 1) := by decide +kernel
theorem dXM_set_71 : decode cXM_set 71 = .ok (.goto 4, 3) := by decide +kernel
theorem dXM_set_74 : decode cXM_set 74 = .ok (.iconst 0, 1) := by decide +kernel
theorem dXM_set_75 : decode cXM_set 75 = .ok (.istore 8, 2) := by decide +kernel
theorem dXM_set_77 : decode cXM_set 77 = .ok (.iload 8, 2) := by decide +kernel
theorem dXM_set_79 : decode cXM_set 79 = .ok (.ifCond .eq 11, 3) := by decide +kernel
theorem dXM_set_82 : decode cXM_set 82 = .ok (.aload_n 0, 1) := by decide +kernel
theorem dXM_set_83 : decode cXM_set 83 = .ok (.iload_n 1, 1) := by decide +kernel
theorem dXM_set_84 : decode cXM_set 84 = .ok (.invokevirtual 51, 3) := by decide +kernel
theorem dXM_set_87 : decode cXM_set 87 = .ok (.goto 6, 3) := by decide +kernel
theorem dXM_set_90 : decode cXM_set 90 = .ok (.sipush 128, 3) := by decide +kernel
theorem dXM_set_93 : decode cXM_set 93 = .ok (.istore 9, 2) := by decide +kernel
theorem dXM_set_95 : decode cXM_set 95 = .ok (.iconst 0, 1) := by decide +kernel
theorem dXM_set_96 : decode cXM_set 96 = .ok (.istore 10, 2) := by decide +kernel
theorem dXM_set_98 : decode cXM_set 98 = .ok (.iload 10, 2) := by decide +kernel
theorem dXM_set_100 : decode cXM_set 100 = .ok (.bipush 8, 2) := by decide +kernel
theorem dXM_set_102 : decode cXM_set 102 = .ok (.if_icmp .ge 43, 3) := by decide +kernel
theorem dXM_set_105 : decode cXM_set 105 = .ok (.bipush 8, 2) := by decide +kernel
theorem dXM_set_107 : decode cXM_set 107 = .ok (.iload_n 2, 1) := by decide +kernel
theorem dXM_set_108 : decode cXM_set 108 = .ok (.imul, 1) := by decide +kernel
theorem dXM_set_109 : decode cXM_set 109 = .ok (.iload 10, 2) := by decide +kernel
theorem dXM_set_111 : decode cXM_set 111 = .ok (.iadd, 1) := by decide +kernel
theorem dXM_set_112 : decode cXM_set 112 = .ok (.iload 9, 2) := by decide +kernel
theorem dXM_set_114 : decode cXM_set 114 = .ok (.if_icmp .ge 25, 3) := by decide +kernel
theorem dXM_set_117 : decode cXM_set 117 = .ok (.aload_n 0, 1) := by decide +kernel
theorem dXM_set_118 : decode cXM_set 118 = .ok (.getfield 8, 3) := by decide +kernel
theorem dXM_set_121 : decode cXM_set 121 = .ok (.iload 5, 2) := by decide +kernel
theorem dXM_set_123 : decode cXM_set 123 = .ok (.iload 10, 2) := by decide +kernel
theorem dXM_set_125 : decode cXM_set 125 = .ok (.iadd, 1) := by decide +kernel
theorem dXM_set_126 : decode cXM_set 126 = .ok (.lload_n 3, 1) := by decide +kernel
theorem dXM_set_127 : decode cXM_set 127 = .ok (.bipush 56, 2) := by decide +kernel
theorem dXM_set_129 : decode cXM_set 129 = .ok (.bipush 8, 2) := by decide +kernel
theorem dXM_set_131 : decode cXM_set 131 = .ok (.iload 10, 2) := by decide +kernel
theorem dXM_set_133 : decode cXM_set 133 = .ok (.imul, 1) := by decide +kernel
theorem dXM_set_134 : decode cXM_set 134 = .ok (.isub, 1) := by decide +kernel
theorem dXM_set_135 : decode cXM_set 135 = .ok (.lshr, 1) := by decide +kernel
theorem dXM_set_136 : decode cXM_set 136 = .ok (.l2i, 1) := by decide +kernel
theorem dXM_set_137 : decode cXM_set 137 = .ok (.i2b, 1) := by decide +kernel
theorem dXM_set_138 : decode cXM_set 138 = .ok (.bastore, 1) := by decide +kernel
theorem dXM_set_139 : decode cXM_set 139 = .ok (.iinc 10 1, 3) := by decide +kernel
theorem dXM_set_142 : decode cXM_set 142 = .ok (.goto (-44), 3) := by decide +kernel
theorem dXM_set_145 : decode cXM_set 145 = .ok (.aload_n 0, 1) := by decide +kernel
theorem dXM_set_146 : decode cXM_set 146 = .ok (.iload 8, 2) := by decide +kernel
theorem dXM_set_148 : decode cXM_set 148 = .ok (.ifCond .eq 7, 3) := by decide +kernel
theorem dXM_set_151 : decode cXM_set 151 = .ok (.iconst 3, 1) := by decide +kernel
theorem dXM_set_152 : decode cXM_set 152 = .ok (.goto 4, 3) := by decide +kernel
theorem dXM_set_155 : decode cXM_set 155 = .ok (.iconst 0, 1) := by decide +kernel
theorem dXM_set_156 : decode cXM_set 156 = .ok (.putfield 22, 3) := by decide +kernel
theorem dXM_set_159 : decode cXM_set 159 = .ok (.iload 8, 2) := by decide +kernel
theorem dXM_set_161 : decode cXM_set 161 = .ok (.ifCond .ne 6, 3) := by decide +kernel
theorem dXM_set_164 : decode cXM_set 164 = .ok (.lload 6, 2) := by decide +kernel
theorem dXM_set_166 : decode cXM_set 166 = .ok (.lreturn, 1) := by decide +kernel
theorem dXM_set_167 : decode cXM_set 167 = .ok (.aload_n 0, 1) := by decide +kernel
theorem dXM_set_168 : decode cXM_set 168 = .ok (.iconst 0, 1) := by decide +kernel
theorem dXM_set_169 : decode cXM_set 169 = .ok (.putfield 49, 3) := by decide +kernel
theorem dXM_set_172 : decode cXM_set 172 = .ok (.aload_n 0, 1) := by decide +kernel
theorem dXM_set_173 : decode cXM_set 173 = .ok (.iconst 0, 1) := by decide +kernel
theorem dXM_set_174 : decode cXM_set 174 = .ok (.putfield 14, 3) := by decide +kernel
theorem dXM_set_177 : decode cXM_set 177 = .ok (.lconst 0, 1) := by decide +kernel
theorem dXM_set_178 : decode cXM_set 178 = .ok (.lreturn, 1) := by decide +kernel
def yXM_fails : MethodName := ⟨"ParityArrayModel", "fails", "(I)I"⟩
abbrev cXM_fails : ByteArray := prog_5_method_3_code
def wsXM_fails : List Cond := .code yXM_fails cXM_fails 2 (some .int) :: pz_G
theorem tcXM_fails : (.code yXM_fails cXM_fails 2 (some .int) : Cond) ∈ pz_G := tw_430
theorem dXM_fails_0 : decode cXM_fails 0 = .ok (.aload_n 0, 1) := by decide +kernel
theorem dXM_fails_1 : decode cXM_fails 1 = .ok (.iload_n 1, 1) := by decide +kernel
theorem dXM_fails_2 : decode cXM_fails 2 = .ok (.putfield 22, 3) := by decide +kernel
theorem dXM_fails_5 : decode cXM_fails 5 = .ok (.iconst 0, 1) := by decide +kernel
theorem dXM_fails_6 : decode cXM_fails 6 = .ok (.ireturn, 1) := by decide +kernel
def yXM_read : MethodName := ⟨"ParityArrayModel", "read", "(I)J"⟩
abbrev cXM_read : ByteArray := prog_5_method_6_code
def wsXM_read : List Cond := .code yXM_read cXM_read 5 (some .long) :: pz_G
theorem tcXM_read : (.code yXM_read cXM_read 5 (some .long) : Cond) ∈ pz_G := tw_434
theorem dXM_read_0 : decode cXM_read 0 = .ok (.lconst 0, 1) := by decide +kernel
theorem dXM_read_1 : decode cXM_read 1 = .ok (.lstore_n 2, 1) := by decide +kernel
theorem dXM_read_2 : decode cXM_read 2 = .ok (.iconst 0, 1) := by decide +kernel
theorem dXM_read_3 : decode cXM_read 3 = .ok (.istore 4, 2) := by decide +kernel
theorem dXM_read_5 : decode cXM_read 5 = .ok (.iload 4, 2) := by decide +kernel
theorem dXM_read_7 : decode cXM_read 7 = .ok (.bipush 8, 2) := by decide +kernel
theorem dXM_read_9 : decode cXM_read 9 = .ok (.if_icmp .ge 29, 3) := by decide +kernel
theorem dXM_read_12 : decode cXM_read 12 = .ok (.lload_n 2, 1) := by decide +kernel
theorem dXM_read_13 : decode cXM_read 13 = .ok (.bipush 8, 2) := by decide +kernel
theorem dXM_read_15 : decode cXM_read 15 = .ok (.lshl, 1) := by decide +kernel
theorem dXM_read_16 : decode cXM_read 16 = .ok (.aload_n 0, 1) := by decide +kernel
theorem dXM_read_17 : decode cXM_read 17 = .ok (.getfield 8, 3) := by decide +kernel
theorem dXM_read_20 : decode cXM_read 20 = .ok (.iload_n 1, 1) := by decide +kernel
theorem dXM_read_21 : decode cXM_read 21 = .ok (.iload 4, 2) := by decide +kernel
theorem dXM_read_23 : decode cXM_read 23 = .ok (.iadd, 1) := by decide +kernel
theorem dXM_read_24 : decode cXM_read 24 = .ok (.baload, 1) := by decide +kernel
theorem dXM_read_25 : decode cXM_read 25 = .ok (.sipush 255, 3) := by decide +kernel
theorem dXM_read_28 : decode cXM_read 28 = .ok (.iand, 1) := by decide +kernel
theorem dXM_read_29 : decode cXM_read 29 = .ok (.i2l, 1) := by decide +kernel
theorem dXM_read_30 : decode cXM_read 30 = .ok (.lor, 1) := by decide +kernel
theorem dXM_read_31 : decode cXM_read 31 = .ok (.lstore_n 2, 1) := by decide +kernel
theorem dXM_read_32 : decode cXM_read 32 = .ok (.iinc 4 1, 3) := by decide +kernel
theorem dXM_read_35 : decode cXM_read 35 = .ok (.goto (-30), 3) := by decide +kernel
theorem dXM_read_38 : decode cXM_read 38 = .ok (.lload_n 2, 1) := by decide +kernel
theorem dXM_read_39 : decode cXM_read 39 = .ok (.lreturn, 1) := by decide +kernel
def yXM_fresh : MethodName := ⟨"ParityArrayModel", "fresh", "(I)I"⟩
abbrev cXM_fresh : ByteArray := prog_5_method_5_code
def wsXM_fresh : List Cond := .code yXM_fresh cXM_fresh 4 (some .int) :: pz_G
theorem tcXM_fresh : (.code yXM_fresh cXM_fresh 4 (some .int) : Cond) ∈ pz_G := tw_438
theorem dXM_fresh_0 : decode cXM_fresh 0 = .ok (.iload_n 1, 1) := by decide +kernel
theorem dXM_fresh_1 : decode cXM_fresh 1 = .ok (.iconst 4, 1) := by decide +kernel
theorem dXM_fresh_2 : decode cXM_fresh 2 = .ok (.idiv, 1) := by decide +kernel
theorem dXM_fresh_3 : decode cXM_fresh 3 = .ok (.istore_n 2, 1) := by decide +kernel
theorem dXM_fresh_4 : decode cXM_fresh 4 = .ok (.aload_n 0, 1) := by decide +kernel
theorem dXM_fresh_5 : decode cXM_fresh 5 = .ok (.iload_n 2, 1) := by decide +kernel
theorem dXM_fresh_6 : decode cXM_fresh 6 = .ok (.iconst 5, 1) := by decide +kernel
theorem dXM_fresh_7 : decode cXM_fresh 7 = .ok (.irem, 1) := by decide +kernel
theorem dXM_fresh_8 : decode cXM_fresh 8 = .ok (.iload_n 2, 1) := by decide +kernel
theorem dXM_fresh_9 : decode cXM_fresh 9 = .ok (.invokevirtual 31, 3) := by decide +kernel
theorem dXM_fresh_12 : decode cXM_fresh 12 = .ok (.ifCond .eq 7, 3) := by decide +kernel
theorem dXM_fresh_15 : decode cXM_fresh 15 = .ok (.iconst 1, 1) := by decide +kernel
theorem dXM_fresh_16 : decode cXM_fresh 16 = .ok (.goto 4, 3) := by decide +kernel
theorem dXM_fresh_19 : decode cXM_fresh 19 = .ok (.iconst 0, 1) := by decide +kernel
theorem dXM_fresh_20 : decode cXM_fresh 20 = .ok (.istore_n 3, 1) := by decide +kernel
theorem dXM_fresh_21 : decode cXM_fresh 21 = .ok (.aload_n 0, 1) := by decide +kernel
theorem dXM_fresh_22 : decode cXM_fresh 22 = .ok (.getfield 35, 3) := by decide +kernel
theorem dXM_fresh_25 : decode cXM_fresh 25 = .ok (.iload_n 3, 1) := by decide +kernel
theorem dXM_fresh_26 : decode cXM_fresh 26 = .ok (.if_icmp .ge 5, 3) := by decide +kernel
theorem dXM_fresh_29 : decode cXM_fresh 29 = .ok (.iconst 0, 1) := by decide +kernel
theorem dXM_fresh_30 : decode cXM_fresh 30 = .ok (.ireturn, 1) := by decide +kernel
theorem dXM_fresh_31 : decode cXM_fresh 31 = .ok (.aload_n 0, 1) := by decide +kernel
theorem dXM_fresh_32 : decode cXM_fresh 32 = .ok (.getfield 35, 3) := by decide +kernel
theorem dXM_fresh_35 : decode cXM_fresh 35 = .ok (.iload_n 3, 1) := by decide +kernel
theorem dXM_fresh_36 : decode cXM_fresh 36 = .ok (.if_icmp .le 7, 3) := by decide +kernel
theorem dXM_fresh_39 : decode cXM_fresh 39 = .ok (.sipush 128, 3) := by decide +kernel
theorem dXM_fresh_42 : decode cXM_fresh 42 = .ok (.ireturn, 1) := by decide +kernel
theorem dXM_fresh_43 : decode cXM_fresh 43 = .ok (.aload_n 0, 1) := by decide +kernel
theorem dXM_fresh_44 : decode cXM_fresh 44 = .ok (.getfield 38, 3) := by decide +kernel
theorem dXM_fresh_47 : decode cXM_fresh 47 = .ok (.sipush 128, 3) := by decide +kernel
theorem dXM_fresh_50 : decode cXM_fresh 50 = .ok (.if_icmp .ge 10, 3) := by decide +kernel
theorem dXM_fresh_53 : decode cXM_fresh 53 = .ok (.aload_n 0, 1) := by decide +kernel
theorem dXM_fresh_54 : decode cXM_fresh 54 = .ok (.getfield 38, 3) := by decide +kernel
theorem dXM_fresh_57 : decode cXM_fresh 57 = .ok (.goto 6, 3) := by decide +kernel
theorem dXM_fresh_60 : decode cXM_fresh 60 = .ok (.sipush 128, 3) := by decide +kernel
theorem dXM_fresh_63 : decode cXM_fresh 63 = .ok (.ireturn, 1) := by decide +kernel
def yXM_isThere : MethodName := ⟨"ParityArrayModel", "isThere", "(II)Z"⟩
abbrev cXM_isThere : ByteArray := prog_5_method_4_code
def wsXM_isThere : List Cond := .code yXM_isThere cXM_isThere 3 (some .boolean) :: pz_G
theorem tcXM_isThere : (.code yXM_isThere cXM_isThere 3 (some .boolean) : Cond) ∈ pz_G := tw_442
theorem dXM_isThere_0 : decode cXM_isThere 0 = .ok (.iload_n 1, 1) := by decide +kernel
theorem dXM_isThere_1 : decode cXM_isThere 1 = .ok (.aload_n 0, 1) := by decide +kernel
theorem dXM_isThere_2 : decode cXM_isThere 2 = .ok (.getfield 18, 3) := by decide +kernel
theorem dXM_isThere_5 : decode cXM_isThere 5 = .ok (.if_icmp .ne 18, 3) := by decide +kernel
theorem dXM_isThere_8 : decode cXM_isThere 8 = .ok (.aload_n 0, 1) := by decide +kernel
theorem dXM_isThere_9 : decode cXM_isThere 9 = .ok (.getfield 25, 3) := by decide +kernel
theorem dXM_isThere_12 : decode cXM_isThere 12 = .ok (.ifCond .eq 15, 3) := by decide +kernel
theorem dXM_isThere_15 : decode cXM_isThere 15 = .ok (.iload_n 2, 1) := by decide +kernel
theorem dXM_isThere_16 : decode cXM_isThere 16 = .ok (.aload_n 0, 1) := by decide +kernel
theorem dXM_isThere_17 : decode cXM_isThere 17 = .ok (.getfield 28, 3) := by decide +kernel
theorem dXM_isThere_20 : decode cXM_isThere 20 = .ok (.if_icmp .ge 7, 3) := by decide +kernel
theorem dXM_isThere_23 : decode cXM_isThere 23 = .ok (.iconst 1, 1) := by decide +kernel
theorem dXM_isThere_24 : decode cXM_isThere 24 = .ok (.goto 4, 3) := by decide +kernel
theorem dXM_isThere_27 : decode cXM_isThere 27 = .ok (.iconst 0, 1) := by decide +kernel
theorem dXM_isThere_28 : decode cXM_isThere 28 = .ok (.ireturn, 1) := by decide +kernel
def yXM_get : MethodName := ⟨"ParityArrayModel", "get", "(II)J"⟩
abbrev cXM_get : ByteArray := prog_5_method_8_code
def wsXM_get : List Cond := .code yXM_get cXM_get 3 (some .long) :: pz_G
theorem tcXM_get : (.code yXM_get cXM_get 3 (some .long) : Cond) ∈ pz_G := tw_446
theorem dXM_get_0 : decode cXM_get 0 = .ok (.aload_n 0, 1) := by decide +kernel
theorem dXM_get_1 : decode cXM_get 1 = .ok (.getfield 14, 3) := by decide +kernel
theorem dXM_get_4 : decode cXM_get 4 = .ok (.ifCond .ne 10, 3) := by decide +kernel
theorem dXM_get_7 : decode cXM_get 7 = .ok (.aload_n 0, 1) := by decide +kernel
theorem dXM_get_8 : decode cXM_get 8 = .ok (.iconst 1, 1) := by decide +kernel
theorem dXM_get_9 : decode cXM_get 9 = .ok (.invokevirtual 41, 3) := by decide +kernel
theorem dXM_get_12 : decode cXM_get 12 = .ok (.i2l, 1) := by decide +kernel
theorem dXM_get_13 : decode cXM_get 13 = .ok (.lreturn, 1) := by decide +kernel
theorem dXM_get_14 : decode cXM_get 14 = .ok (.iload_n 1, 1) := by decide +kernel
theorem dXM_get_15 : decode cXM_get 15 = .ok (.ifCond .lt 20, 3) := by decide +kernel
theorem dXM_get_18 : decode cXM_get 18 = .ok (.iload_n 1, 1) := by decide +kernel
theorem dXM_get_19 : decode cXM_get 19 = .ok (.sipush 600, 3) := by decide +kernel
theorem dXM_get_22 : decode cXM_get 22 = .ok (.if_icmp .ge 13, 3) := by decide +kernel
theorem dXM_get_25 : decode cXM_get 25 = .ok (.iload_n 2, 1) := by decide +kernel
theorem dXM_get_26 : decode cXM_get 26 = .ok (.ifCond .lt 9, 3) := by decide +kernel
theorem dXM_get_29 : decode cXM_get 29 = .ok (.iload_n 2, 1) := by decide +kernel
theorem dXM_get_30 : decode cXM_get 30 = .ok (.bipush 16, 2) := by decide +kernel
theorem dXM_get_32 : decode cXM_get 32 = .ok (.if_icmp .lt 10, 3) := by decide +kernel
theorem dXM_get_35 : decode cXM_get 35 = .ok (.aload_n 0, 1) := by decide +kernel
theorem dXM_get_36 : decode cXM_get 36 = .ok (.iconst 2, 1) := by decide +kernel
theorem dXM_get_37 : decode cXM_get 37 = .ok (.invokevirtual 41, 3) := by decide +kernel
theorem dXM_get_40 : decode cXM_get 40 = .ok (.i2l, 1) := by decide +kernel
theorem dXM_get_41 : decode cXM_get 41 = .ok (.lreturn, 1) := by decide +kernel
theorem dXM_get_42 : decode cXM_get 42 = .ok (.aload_n 0, 1) := by decide +kernel
theorem dXM_get_43 : decode cXM_get 43 = .ok (.iconst 0, 1) := by decide +kernel
theorem dXM_get_44 : decode cXM_get 44 = .ok (.putfield 22, 3) := by decide +kernel
theorem dXM_get_47 : decode cXM_get 47 = .ok (.aload_n 0, 1) := by decide +kernel
theorem dXM_get_48 : decode cXM_get 48 = .ok (.iload_n 1, 1) := by decide +kernel
theorem dXM_get_49 : decode cXM_get 49 = .ok (.sipush 128, 3) := by decide +kernel
theorem dXM_get_52 : decode cXM_get 52 = .ok (.imul, 1) := by decide +kernel
theorem dXM_get_53 : decode cXM_get 53 = .ok (.bipush 8, 2) := by decide +kernel
theorem dXM_get_55 : decode cXM_get 55 = .ok (.iload_n 2, 1) := by decide +kernel
theorem dXM_get_56 : decode cXM_get 56 = .ok (.imul, 1) := by decide +kernel
theorem dXM_get_57 : decode cXM_get 57 = .ok (.iadd, 1) := by decide +kernel
theorem dXM_get_58 : decode cXM_get 58 = .ok (.invokevirtual 45, 3) := by decide +kernel
theorem dXM_get_61 : decode cXM_get 61 = .ok (.lreturn, 1) := by decide +kernel
def yXM_die : MethodName := ⟨"ParityArrayModel", "die", "(I)V"⟩
abbrev cXM_die : ByteArray := prog_5_method_9_code
def wsXM_die : List Cond := .code yXM_die cXM_die 2 (none : Option Jvm.ClassFile.FieldType) :: pz_G
theorem tcXM_die : (.code yXM_die cXM_die 2 (none : Option Jvm.ClassFile.FieldType) : Cond) ∈ pz_G := tw_450
theorem dXM_die_0 : decode cXM_die 0 = .ok (.aload_n 0, 1) := by decide +kernel
theorem dXM_die_1 : decode cXM_die 1 = .ok (.iload_n 1, 1) := by decide +kernel
theorem dXM_die_2 : decode cXM_die 2 = .ok (.ifCond .lt 8, 3) := by decide +kernel
theorem dXM_die_5 : decode cXM_die 5 = .ok (.iload_n 1, 1) := by decide +kernel
theorem dXM_die_6 : decode cXM_die 6 = .ok (.iconst 4, 1) := by decide +kernel
theorem dXM_die_7 : decode cXM_die 7 = .ok (.if_icmp .le 7, 3) := by decide +kernel
theorem dXM_die_10 : decode cXM_die 10 = .ok (.iconst 1, 1) := by decide +kernel
theorem dXM_die_11 : decode cXM_die 11 = .ok (.goto 23, 3) := by decide +kernel
theorem dXM_die_14 : decode cXM_die 14 = .ok (.aload_n 0, 1) := by decide +kernel
theorem dXM_die_15 : decode cXM_die 15 = .ok (.getfield 14, 3) := by decide +kernel
theorem dXM_die_18 : decode cXM_die 18 = .ok (.ifCond .eq 11, 3) := by decide +kernel
theorem dXM_die_21 : decode cXM_die 21 = .ok (.aload_n 0, 1) := by decide +kernel
theorem dXM_die_22 : decode cXM_die 22 = .ok (.getfield 18, 3) := by decide +kernel
theorem dXM_die_25 : decode cXM_die 25 = .ok (.iconst (-1), 1) := by decide +kernel
theorem dXM_die_26 : decode cXM_die 26 = .ok (.if_icmp .eq 7, 3) := by decide +kernel
theorem dXM_die_29 : decode cXM_die 29 = .ok (.iconst 2, 1) := by decide +kernel
theorem dXM_die_30 : decode cXM_die 30 = .ok (.goto 4, 3) := by decide +kernel
theorem dXM_die_33 : decode cXM_die 33 = .ok (.iconst 0, 1) := by decide +kernel
theorem dXM_die_34 : decode cXM_die 34 = .ok (.putfield 22, 3) := by decide +kernel
theorem dXM_die_37 : decode cXM_die 37 = .ok (.aload_n 0, 1) := by decide +kernel
theorem dXM_die_38 : decode cXM_die 38 = .ok (.getfield 22, 3) := by decide +kernel
theorem dXM_die_41 : decode cXM_die 41 = .ok (.ifCond .eq 4, 3) := by decide +kernel
theorem dXM_die_44 : decode cXM_die 44 = .ok (.return_, 1) := by decide +kernel
theorem dXM_die_45 : decode cXM_die 45 = .ok (.aload_n 0, 1) := by decide +kernel
theorem dXM_die_46 : decode cXM_die 46 = .ok (.iload_n 1, 1) := by decide +kernel
theorem dXM_die_47 : decode cXM_die 47 = .ok (.putfield 18, 3) := by decide +kernel
theorem dXM_die_50 : decode cXM_die 50 = .ok (.aload_n 0, 1) := by decide +kernel
theorem dXM_die_51 : decode cXM_die 51 = .ok (.iconst 0, 1) := by decide +kernel
theorem dXM_die_52 : decode cXM_die 52 = .ok (.putfield 25, 3) := by decide +kernel
theorem dXM_die_55 : decode cXM_die 55 = .ok (.aload_n 0, 1) := by decide +kernel
theorem dXM_die_56 : decode cXM_die 56 = .ok (.iconst 0, 1) := by decide +kernel
theorem dXM_die_57 : decode cXM_die 57 = .ok (.putfield 28, 3) := by decide +kernel
theorem dXM_die_60 : decode cXM_die 60 = .ok (.return_, 1) := by decide +kernel
def yXM_replace : MethodName := ⟨"ParityArrayModel", "replace", "()I"⟩
abbrev cXM_replace : ByteArray := prog_5_method_10_code
def wsXM_replace : List Cond := .code yXM_replace cXM_replace 1 (some .int) :: pz_G
theorem tcXM_replace : (.code yXM_replace cXM_replace 1 (some .int) : Cond) ∈ pz_G := tw_454
theorem dXM_replace_0 : decode cXM_replace 0 = .ok (.aload_n 0, 1) := by decide +kernel
theorem dXM_replace_1 : decode cXM_replace 1 = .ok (.getfield 18, 3) := by decide +kernel
theorem dXM_replace_4 : decode cXM_replace 4 = .ok (.iconst (-1), 1) := by decide +kernel
theorem dXM_replace_5 : decode cXM_replace 5 = .ok (.if_icmp .eq 10, 3) := by decide +kernel
theorem dXM_replace_8 : decode cXM_replace 8 = .ok (.aload_n 0, 1) := by decide +kernel
theorem dXM_replace_9 : decode cXM_replace 9 = .ok (.getfield 25, 3) := by decide +kernel
theorem dXM_replace_12 : decode cXM_replace 12 = .ok (.ifCond .eq 9, 3) := by decide +kernel
theorem dXM_replace_15 : decode cXM_replace 15 = .ok (.aload_n 0, 1) := by decide +kernel
theorem dXM_replace_16 : decode cXM_replace 16 = .ok (.iconst 1, 1) := by decide +kernel
theorem dXM_replace_17 : decode cXM_replace 17 = .ok (.invokevirtual 41, 3) := by decide +kernel
theorem dXM_replace_20 : decode cXM_replace 20 = .ok (.ireturn, 1) := by decide +kernel
theorem dXM_replace_21 : decode cXM_replace 21 = .ok (.aload_n 0, 1) := by decide +kernel
theorem dXM_replace_22 : decode cXM_replace 22 = .ok (.iconst 0, 1) := by decide +kernel
theorem dXM_replace_23 : decode cXM_replace 23 = .ok (.putfield 22, 3) := by decide +kernel
theorem dXM_replace_26 : decode cXM_replace 26 = .ok (.aload_n 0, 1) := by decide +kernel
theorem dXM_replace_27 : decode cXM_replace 27 = .ok (.iconst 1, 1) := by decide +kernel
theorem dXM_replace_28 : decode cXM_replace 28 = .ok (.putfield 25, 3) := by decide +kernel
theorem dXM_replace_31 : decode cXM_replace 31 = .ok (.aload_n 0, 1) := by decide +kernel
theorem dXM_replace_32 : decode cXM_replace 32 = .ok (.getfield 18, 3) := by decide +kernel
theorem dXM_replace_35 : decode cXM_replace 35 = .ok (.ireturn, 1) := by decide +kernel
def yXM_rebuild : MethodName := ⟨"ParityArrayModel", "rebuild", "()I"⟩
abbrev cXM_rebuild : ByteArray := prog_5_method_11_code
def wsXM_rebuild : List Cond := .code yXM_rebuild cXM_rebuild 2 (some .int) :: pz_G
theorem tcXM_rebuild : (.code yXM_rebuild cXM_rebuild 2 (some .int) : Cond) ∈ pz_G := tw_458
theorem dXM_rebuild_0 : decode cXM_rebuild 0 = .ok (.aload_n 0, 1) := by decide +kernel
theorem dXM_rebuild_1 : decode cXM_rebuild 1 = .ok (.getfield 14, 3) := by decide +kernel
theorem dXM_rebuild_4 : decode cXM_rebuild 4 = .ok (.ifCond .eq 18, 3) := by decide +kernel
theorem dXM_rebuild_7 : decode cXM_rebuild 7 = .ok (.aload_n 0, 1) := by decide +kernel
theorem dXM_rebuild_8 : decode cXM_rebuild 8 = .ok (.getfield 18, 3) := by decide +kernel
theorem dXM_rebuild_11 : decode cXM_rebuild 11 = .ok (.iconst (-1), 1) := by decide +kernel
theorem dXM_rebuild_12 : decode cXM_rebuild 12 = .ok (.if_icmp .eq 10, 3) := by decide +kernel
theorem dXM_rebuild_15 : decode cXM_rebuild 15 = .ok (.aload_n 0, 1) := by decide +kernel
theorem dXM_rebuild_16 : decode cXM_rebuild 16 = .ok (.getfield 25, 3) := by decide +kernel
theorem dXM_rebuild_19 : decode cXM_rebuild 19 = .ok (.ifCond .ne 9, 3) := by decide +kernel
theorem dXM_rebuild_22 : decode cXM_rebuild 22 = .ok (.aload_n 0, 1) := by decide +kernel
theorem dXM_rebuild_23 : decode cXM_rebuild 23 = .ok (.iconst 1, 1) := by decide +kernel
theorem dXM_rebuild_24 : decode cXM_rebuild 24 = .ok (.invokevirtual 41, 3) := by decide +kernel
theorem dXM_rebuild_27 : decode cXM_rebuild 27 = .ok (.ireturn, 1) := by decide +kernel
theorem dXM_rebuild_28 : decode cXM_rebuild 28 = .ok (.aload_n 0, 1) := by decide +kernel
theorem dXM_rebuild_29 : decode cXM_rebuild 29 = .ok (.iconst 0, 1) := by decide +kernel
theorem dXM_rebuild_30 : decode cXM_rebuild 30 = .ok (.putfield 22, 3) := by decide +kernel
theorem dXM_rebuild_33 : decode cXM_rebuild 33 = .ok (.aload_n 0, 1) := by decide +kernel
theorem dXM_rebuild_34 : decode cXM_rebuild 34 = .ok (.dup, 1) := by decide +kernel
theorem dXM_rebuild_35 : decode cXM_rebuild 35 = .ok (.getfield 28, 3) := by decide +kernel
theorem dXM_rebuild_38 : decode cXM_rebuild 38 = .ok (.iconst 1, 1) := by decide +kernel
theorem dXM_rebuild_39 : decode cXM_rebuild 39 = .ok (.iadd, 1) := by decide +kernel
theorem dXM_rebuild_40 : decode cXM_rebuild 40 = .ok (.putfield 28, 3) := by decide +kernel
theorem dXM_rebuild_43 : decode cXM_rebuild 43 = .ok (.sipush 150, 3) := by decide +kernel
theorem dXM_rebuild_46 : decode cXM_rebuild 46 = .ok (.aload_n 0, 1) := by decide +kernel
theorem dXM_rebuild_47 : decode cXM_rebuild 47 = .ok (.getfield 28, 3) := by decide +kernel
theorem dXM_rebuild_50 : decode cXM_rebuild 50 = .ok (.isub, 1) := by decide +kernel
theorem dXM_rebuild_51 : decode cXM_rebuild 51 = .ok (.istore_n 1, 1) := by decide +kernel
theorem dXM_rebuild_52 : decode cXM_rebuild 52 = .ok (.iload_n 1, 1) := by decide +kernel
theorem dXM_rebuild_53 : decode cXM_rebuild 53 = .ok (.ifCond .le 5, 3) := by decide +kernel
theorem dXM_rebuild_56 : decode cXM_rebuild 56 = .ok (.iload_n 1, 1) := by decide +kernel
theorem dXM_rebuild_57 : decode cXM_rebuild 57 = .ok (.ireturn, 1) := by decide +kernel
theorem dXM_rebuild_58 : decode cXM_rebuild 58 = .ok (.aload_n 0, 1) := by decide +kernel
theorem dXM_rebuild_59 : decode cXM_rebuild 59 = .ok (.iconst (-1), 1) := by decide +kernel
theorem dXM_rebuild_60 : decode cXM_rebuild 60 = .ok (.putfield 18, 3) := by decide +kernel
theorem dXM_rebuild_63 : decode cXM_rebuild 63 = .ok (.aload_n 0, 1) := by decide +kernel
theorem dXM_rebuild_64 : decode cXM_rebuild 64 = .ok (.iconst 0, 1) := by decide +kernel
theorem dXM_rebuild_65 : decode cXM_rebuild 65 = .ok (.putfield 25, 3) := by decide +kernel
theorem dXM_rebuild_68 : decode cXM_rebuild 68 = .ok (.aload_n 0, 1) := by decide +kernel
theorem dXM_rebuild_69 : decode cXM_rebuild 69 = .ok (.iconst 0, 1) := by decide +kernel
theorem dXM_rebuild_70 : decode cXM_rebuild 70 = .ok (.putfield 28, 3) := by decide +kernel
theorem dXM_rebuild_73 : decode cXM_rebuild 73 = .ok (.iconst 0, 1) := by decide +kernel
theorem dXM_rebuild_74 : decode cXM_rebuild 74 = .ok (.ireturn, 1) := by decide +kernel
def yXM_power : MethodName := ⟨"ParityArrayModel", "power", "(IIZ)V"⟩
abbrev cXM_power : ByteArray := prog_5_method_12_code
def wsXM_power : List Cond := .code yXM_power cXM_power 4 (none : Option Jvm.ClassFile.FieldType) :: pz_G
theorem tcXM_power : (.code yXM_power cXM_power 4 (none : Option Jvm.ClassFile.FieldType) : Cond) ∈ pz_G := tw_462
theorem dXM_power_0 : decode cXM_power 0 = .ok (.aload_n 0, 1) := by decide +kernel
theorem dXM_power_1 : decode cXM_power 1 = .ok (.iload_n 1, 1) := by decide +kernel
theorem dXM_power_2 : decode cXM_power 2 = .ok (.ifCond .lt 20, 3) := by decide +kernel
theorem dXM_power_5 : decode cXM_power 5 = .ok (.iload_n 1, 1) := by decide +kernel
theorem dXM_power_6 : decode cXM_power 6 = .ok (.bipush 10, 2) := by decide +kernel
theorem dXM_power_8 : decode cXM_power 8 = .ok (.if_icmp .gt 14, 3) := by decide +kernel
theorem dXM_power_11 : decode cXM_power 11 = .ok (.iload_n 2, 1) := by decide +kernel
theorem dXM_power_12 : decode cXM_power 12 = .ok (.ifCond .lt 10, 3) := by decide +kernel
theorem dXM_power_15 : decode cXM_power 15 = .ok (.iload_n 2, 1) := by decide +kernel
theorem dXM_power_16 : decode cXM_power 16 = .ok (.sipush 200, 3) := by decide +kernel
theorem dXM_power_19 : decode cXM_power 19 = .ok (.if_icmp .le 7, 3) := by decide +kernel
theorem dXM_power_22 : decode cXM_power 22 = .ok (.iconst 1, 1) := by decide +kernel
theorem dXM_power_23 : decode cXM_power 23 = .ok (.goto 4, 3) := by decide +kernel
theorem dXM_power_26 : decode cXM_power 26 = .ok (.iconst 0, 1) := by decide +kernel
theorem dXM_power_27 : decode cXM_power 27 = .ok (.putfield 22, 3) := by decide +kernel
theorem dXM_power_30 : decode cXM_power 30 = .ok (.aload_n 0, 1) := by decide +kernel
theorem dXM_power_31 : decode cXM_power 31 = .ok (.getfield 22, 3) := by decide +kernel
theorem dXM_power_34 : decode cXM_power 34 = .ok (.ifCond .eq 4, 3) := by decide +kernel
theorem dXM_power_37 : decode cXM_power 37 = .ok (.return_, 1) := by decide +kernel
theorem dXM_power_38 : decode cXM_power 38 = .ok (.aload_n 0, 1) := by decide +kernel
theorem dXM_power_39 : decode cXM_power 39 = .ok (.iload_n 3, 1) := by decide +kernel
theorem dXM_power_40 : decode cXM_power 40 = .ok (.ifCond .eq 7, 3) := by decide +kernel
theorem dXM_power_43 : decode cXM_power 43 = .ok (.iconst 2, 1) := by decide +kernel
theorem dXM_power_44 : decode cXM_power 44 = .ok (.goto 4, 3) := by decide +kernel
theorem dXM_power_47 : decode cXM_power 47 = .ok (.iconst 1, 1) := by decide +kernel
theorem dXM_power_48 : decode cXM_power 48 = .ok (.putfield 49, 3) := by decide +kernel
theorem dXM_power_51 : decode cXM_power 51 = .ok (.aload_n 0, 1) := by decide +kernel
theorem dXM_power_52 : decode cXM_power 52 = .ok (.iload_n 1, 1) := by decide +kernel
theorem dXM_power_53 : decode cXM_power 53 = .ok (.putfield 35, 3) := by decide +kernel
theorem dXM_power_56 : decode cXM_power 56 = .ok (.aload_n 0, 1) := by decide +kernel
theorem dXM_power_57 : decode cXM_power 57 = .ok (.iload_n 2, 1) := by decide +kernel
theorem dXM_power_58 : decode cXM_power 58 = .ok (.putfield 38, 3) := by decide +kernel
theorem dXM_power_61 : decode cXM_power 61 = .ok (.return_, 1) := by decide +kernel
def yXM_recover : MethodName := ⟨"ParityArrayModel", "recover", "()V"⟩
abbrev cXM_recover : ByteArray := prog_5_method_13_code
def wsXM_recover : List Cond := .code yXM_recover cXM_recover 1 (none : Option Jvm.ClassFile.FieldType) :: pz_G
theorem tcXM_recover : (.code yXM_recover cXM_recover 1 (none : Option Jvm.ClassFile.FieldType) : Cond) ∈ pz_G := tw_466
theorem dXM_recover_0 : decode cXM_recover 0 = .ok (.aload_n 0, 1) := by decide +kernel
theorem dXM_recover_1 : decode cXM_recover 1 = .ok (.aload_n 0, 1) := by decide +kernel
theorem dXM_recover_2 : decode cXM_recover 2 = .ok (.getfield 49, 3) := by decide +kernel
theorem dXM_recover_5 : decode cXM_recover 5 = .ok (.iconst 2, 1) := by decide +kernel
theorem dXM_recover_6 : decode cXM_recover 6 = .ok (.if_icmp .eq 7, 3) := by decide +kernel
theorem dXM_recover_9 : decode cXM_recover 9 = .ok (.iconst 1, 1) := by decide +kernel
theorem dXM_recover_10 : decode cXM_recover 10 = .ok (.goto 4, 3) := by decide +kernel
theorem dXM_recover_13 : decode cXM_recover 13 = .ok (.iconst 0, 1) := by decide +kernel
theorem dXM_recover_14 : decode cXM_recover 14 = .ok (.putfield 14, 3) := by decide +kernel
theorem dXM_recover_17 : decode cXM_recover 17 = .ok (.aload_n 0, 1) := by decide +kernel
theorem dXM_recover_18 : decode cXM_recover 18 = .ok (.aload_n 0, 1) := by decide +kernel
theorem dXM_recover_19 : decode cXM_recover 19 = .ok (.getfield 14, 3) := by decide +kernel
theorem dXM_recover_22 : decode cXM_recover 22 = .ok (.ifCond .eq 7, 3) := by decide +kernel
theorem dXM_recover_25 : decode cXM_recover 25 = .ok (.iconst 0, 1) := by decide +kernel
theorem dXM_recover_26 : decode cXM_recover 26 = .ok (.goto 4, 3) := by decide +kernel
theorem dXM_recover_29 : decode cXM_recover 29 = .ok (.iconst 1, 1) := by decide +kernel
theorem dXM_recover_30 : decode cXM_recover 30 = .ok (.putfield 22, 3) := by decide +kernel
theorem dXM_recover_33 : decode cXM_recover 33 = .ok (.aload_n 0, 1) := by decide +kernel
theorem dXM_recover_34 : decode cXM_recover 34 = .ok (.iconst 0, 1) := by decide +kernel
theorem dXM_recover_35 : decode cXM_recover 35 = .ok (.putfield 49, 3) := by decide +kernel
theorem dXM_recover_38 : decode cXM_recover 38 = .ok (.return_, 1) := by decide +kernel
def yXM_told : MethodName := ⟨"ParityArrayModel", "told", "(I)I"⟩
abbrev cXM_told : ByteArray := prog_5_method_14_code
def wsXM_told : List Cond := .code yXM_told cXM_told 2 (some .int) :: pz_G
theorem tcXM_told : (.code yXM_told cXM_told 2 (some .int) : Cond) ∈ pz_G := tw_470
theorem dXM_told_0 : decode cXM_told 0 = .ok (.iload_n 1, 1) := by decide +kernel
theorem dXM_told_1 : decode cXM_told 1 = .ok (.ifCond .lt 8, 3) := by decide +kernel
theorem dXM_told_4 : decode cXM_told 4 = .ok (.iload_n 1, 1) := by decide +kernel
theorem dXM_told_5 : decode cXM_told 5 = .ok (.iconst 3, 1) := by decide +kernel
theorem dXM_told_6 : decode cXM_told 6 = .ok (.if_icmp .le 9, 3) := by decide +kernel
theorem dXM_told_9 : decode cXM_told 9 = .ok (.aload_n 0, 1) := by decide +kernel
theorem dXM_told_10 : decode cXM_told 10 = .ok (.iconst 1, 1) := by decide +kernel
theorem dXM_told_11 : decode cXM_told 11 = .ok (.invokevirtual 41, 3) := by decide +kernel
theorem dXM_told_14 : decode cXM_told 14 = .ok (.ireturn, 1) := by decide +kernel
theorem dXM_told_15 : decode cXM_told 15 = .ok (.aload_n 0, 1) := by decide +kernel
theorem dXM_told_16 : decode cXM_told 16 = .ok (.iconst 0, 1) := by decide +kernel
theorem dXM_told_17 : decode cXM_told 17 = .ok (.putfield 22, 3) := by decide +kernel
theorem dXM_told_20 : decode cXM_told 20 = .ok (.iload_n 1, 1) := by decide +kernel
theorem dXM_told_21 : decode cXM_told 21 = .ok (.ifCond .ne 18, 3) := by decide +kernel
theorem dXM_told_24 : decode cXM_told 24 = .ok (.aload_n 0, 1) := by decide +kernel
theorem dXM_told_25 : decode cXM_told 25 = .ok (.getfield 14, 3) := by decide +kernel
theorem dXM_told_28 : decode cXM_told 28 = .ok (.ifCond .eq 7, 3) := by decide +kernel
theorem dXM_told_31 : decode cXM_told 31 = .ok (.iconst 1, 1) := by decide +kernel
theorem dXM_told_32 : decode cXM_told 32 = .ok (.goto 43, 3) := by decide +kernel
theorem dXM_told_35 : decode cXM_told 35 = .ok (.iconst 0, 1) := by decide +kernel
theorem dXM_told_36 : decode cXM_told 36 = .ok (.goto 39, 3) := by decide +kernel
theorem dXM_told_39 : decode cXM_told 39 = .ok (.iload_n 1, 1) := by decide +kernel
theorem dXM_told_40 : decode cXM_told 40 = .ok (.iconst 1, 1) := by decide +kernel
theorem dXM_told_41 : decode cXM_told 41 = .ok (.if_icmp .ne 10, 3) := by decide +kernel
theorem dXM_told_44 : decode cXM_told 44 = .ok (.aload_n 0, 1) := by decide +kernel
theorem dXM_told_45 : decode cXM_told 45 = .ok (.getfield 18, 3) := by decide +kernel
theorem dXM_told_48 : decode cXM_told 48 = .ok (.goto 27, 3) := by decide +kernel
theorem dXM_told_51 : decode cXM_told 51 = .ok (.iload_n 1, 1) := by decide +kernel
theorem dXM_told_52 : decode cXM_told 52 = .ok (.iconst 2, 1) := by decide +kernel
theorem dXM_told_53 : decode cXM_told 53 = .ok (.if_icmp .ne 18, 3) := by decide +kernel
theorem dXM_told_56 : decode cXM_told 56 = .ok (.aload_n 0, 1) := by decide +kernel
theorem dXM_told_57 : decode cXM_told 57 = .ok (.getfield 25, 3) := by decide +kernel
theorem dXM_told_60 : decode cXM_told 60 = .ok (.ifCond .eq 7, 3) := by decide +kernel
theorem dXM_told_63 : decode cXM_told 63 = .ok (.iconst 1, 1) := by decide +kernel
theorem dXM_told_64 : decode cXM_told 64 = .ok (.goto 11, 3) := by decide +kernel
theorem dXM_told_67 : decode cXM_told 67 = .ok (.iconst 0, 1) := by decide +kernel
theorem dXM_told_68 : decode cXM_told 68 = .ok (.goto 7, 3) := by decide +kernel
theorem dXM_told_71 : decode cXM_told 71 = .ok (.aload_n 0, 1) := by decide +kernel
theorem dXM_told_72 : decode cXM_told 72 = .ok (.getfield 28, 3) := by decide +kernel
theorem dXM_told_75 : decode cXM_told 75 = .ok (.ireturn, 1) := by decide +kernel
def yXM_check : MethodName := ⟨"ParityArrayModel", "check", "()I"⟩
abbrev cXM_check : ByteArray := prog_5_method_15_code
def wsXM_check : List Cond := .code yXM_check cXM_check 1 (some .int) :: pz_G
theorem tcXM_check : (.code yXM_check cXM_check 1 (some .int) : Cond) ∈ pz_G := tw_474
theorem dXM_check_0 : decode cXM_check 0 = .ok (.aload_n 0, 1) := by decide +kernel
theorem dXM_check_1 : decode cXM_check 1 = .ok (.aload_n 0, 1) := by decide +kernel
theorem dXM_check_2 : decode cXM_check 2 = .ok (.getfield 14, 3) := by decide +kernel
theorem dXM_check_5 : decode cXM_check 5 = .ok (.ifCond .eq 7, 3) := by decide +kernel
theorem dXM_check_8 : decode cXM_check 8 = .ok (.iconst 0, 1) := by decide +kernel
theorem dXM_check_9 : decode cXM_check 9 = .ok (.goto 4, 3) := by decide +kernel
theorem dXM_check_12 : decode cXM_check 12 = .ok (.iconst 1, 1) := by decide +kernel
theorem dXM_check_13 : decode cXM_check 13 = .ok (.putfield 22, 3) := by decide +kernel
theorem dXM_check_16 : decode cXM_check 16 = .ok (.iconst 0, 1) := by decide +kernel
theorem dXM_check_17 : decode cXM_check 17 = .ok (.ireturn, 1) := by decide +kernel
