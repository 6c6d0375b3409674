/-! methods: names, code, words, decode rows (written by a program) -/
def yXL_set : MethodName := ⟨"ParityArrayLaw", "set", "(LParityArray;IIJ[J)I"⟩
abbrev cXL_set : ByteArray := method_3_code
def hhXL_set : List (Nat × Nat × Nat × Nat) := [(0, 11, 14, 13), (0, 11, 18, 15), (0, 11, 22, 17)]
def wsXL_set : List Cond := .codeWith yXL_set cXL_set 7 (some .int) hhXL_set :: pz_G
theorem tcXL_set : (.codeWith yXL_set cXL_set 7 (some .int) hhXL_set : Cond) ∈ pz_G := tw_98
theorem dXL_set_0 : decode cXL_set 0 = .ok (.aload 5, 2) := by decide +kernel
theorem dXL_set_2 : decode cXL_set 2 = .ok (.iconst 0, 1) := by decide +kernel
theorem dXL_set_3 : decode cXL_set 3 = .ok (.aload_n 0, 1) := by decide +kernel
theorem dXL_set_4 : decode cXL_set 4 = .ok (.iload_n 1, 1) := by decide +kernel
theorem dXL_set_5 : decode cXL_set 5 = .ok (.iload_n 2, 1) := by decide +kernel
theorem dXL_set_6 : decode cXL_set 6 = .ok (.lload_n 3, 1) := by decide +kernel
theorem dXL_set_7 : decode cXL_set 7 = .ok (.invokevirtual 7, 3) := by decide +kernel
theorem dXL_set_10 : decode cXL_set 10 = .ok (.lastore, 1) := by decide +kernel
theorem dXL_set_11 : decode cXL_set 11 = .ok (.goto 15, 3) := by decide +kernel
theorem dXL_set_14 : decode cXL_set 14 = .ok (.astore 6, 2) := by decide +kernel
theorem dXL_set_16 : decode cXL_set 16 = .ok (.iconst 1, 1) := by decide +kernel
theorem dXL_set_17 : decode cXL_set 17 = .ok (.ireturn, 1) := by decide +kernel
theorem dXL_set_18 : decode cXL_set 18 = .ok (.astore 6, 2) := by decide +kernel
theorem dXL_set_20 : decode cXL_set 20 = .ok (.iconst 2, 1) := by decide +kernel
theorem dXL_set_21 : decode cXL_set 21 = .ok (.ireturn, 1) := by decide +kernel
theorem dXL_set_22 : decode cXL_set 22 = .ok (.astore 6, 2) := by decide +kernel
theorem dXL_set_24 : decode cXL_set 24 = .ok (.iconst 3, 1) := by decide +kernel
theorem dXL_set_25 : decode cXL_set 25 = .ok (.ireturn, 1) := by decide +kernel
theorem dXL_set_26 : decode cXL_set 26 = .ok (.iconst 0, 1) := by decide +kernel
theorem dXL_set_27 : decode cXL_set 27 = .ok (.ireturn, 1) := by decide +kernel
def yXL_get : MethodName := ⟨"ParityArrayLaw", "get", "(LParityArray;II[J)I"⟩
abbrev cXL_get : ByteArray := method_4_code
def hhXL_get : List (Nat × Nat × Nat × Nat) := [(0, 9, 12, 13), (0, 9, 16, 15)]
def wsXL_get : List Cond := .codeWith yXL_get cXL_get 5 (some .int) hhXL_get :: pz_G
theorem tcXL_get : (.codeWith yXL_get cXL_get 5 (some .int) hhXL_get : Cond) ∈ pz_G := tw_272
theorem dXL_get_0 : decode cXL_get 0 = .ok (.aload_n 3, 1) := by decide +kernel
theorem dXL_get_1 : decode cXL_get 1 = .ok (.iconst 0, 1) := by decide +kernel
theorem dXL_get_2 : decode cXL_get 2 = .ok (.aload_n 0, 1) := by decide +kernel
theorem dXL_get_3 : decode cXL_get 3 = .ok (.iload_n 1, 1) := by decide +kernel
theorem dXL_get_4 : decode cXL_get 4 = .ok (.iload_n 2, 1) := by decide +kernel
theorem dXL_get_5 : decode cXL_get 5 = .ok (.invokevirtual 19, 3) := by decide +kernel
theorem dXL_get_8 : decode cXL_get 8 = .ok (.lastore, 1) := by decide +kernel
theorem dXL_get_9 : decode cXL_get 9 = .ok (.goto 11, 3) := by decide +kernel
theorem dXL_get_12 : decode cXL_get 12 = .ok (.astore 4, 2) := by decide +kernel
theorem dXL_get_14 : decode cXL_get 14 = .ok (.iconst 1, 1) := by decide +kernel
theorem dXL_get_15 : decode cXL_get 15 = .ok (.ireturn, 1) := by decide +kernel
theorem dXL_get_16 : decode cXL_get 16 = .ok (.astore 4, 2) := by decide +kernel
theorem dXL_get_18 : decode cXL_get 18 = .ok (.iconst 2, 1) := by decide +kernel
theorem dXL_get_19 : decode cXL_get 19 = .ok (.ireturn, 1) := by decide +kernel
theorem dXL_get_20 : decode cXL_get 20 = .ok (.iconst 0, 1) := by decide +kernel
theorem dXL_get_21 : decode cXL_get 21 = .ok (.ireturn, 1) := by decide +kernel
def yXL_die : MethodName := ⟨"ParityArrayLaw", "die", "(LParityArray;I)I"⟩
abbrev cXL_die : ByteArray := method_5_code
def hhXL_die : List (Nat × Nat × Nat × Nat) := [(0, 5, 8, 15), (0, 5, 11, 13)]
def wsXL_die : List Cond := .codeWith yXL_die cXL_die 3 (some .int) hhXL_die :: pz_G
theorem tcXL_die : (.codeWith yXL_die cXL_die 3 (some .int) hhXL_die : Cond) ∈ pz_G := tw_279
theorem dXL_die_0 : decode cXL_die 0 = .ok (.aload_n 0, 1) := by decide +kernel
theorem dXL_die_1 : decode cXL_die 1 = .ok (.iload_n 1, 1) := by decide +kernel
theorem dXL_die_2 : decode cXL_die 2 = .ok (.invokevirtual 23, 3) := by decide +kernel
theorem dXL_die_5 : decode cXL_die 5 = .ok (.goto 9, 3) := by decide +kernel
theorem dXL_die_8 : decode cXL_die 8 = .ok (.astore_n 2, 1) := by decide +kernel
theorem dXL_die_9 : decode cXL_die 9 = .ok (.iconst 1, 1) := by decide +kernel
theorem dXL_die_10 : decode cXL_die 10 = .ok (.ireturn, 1) := by decide +kernel
theorem dXL_die_11 : decode cXL_die 11 = .ok (.astore_n 2, 1) := by decide +kernel
theorem dXL_die_12 : decode cXL_die 12 = .ok (.iconst 2, 1) := by decide +kernel
theorem dXL_die_13 : decode cXL_die 13 = .ok (.ireturn, 1) := by decide +kernel
theorem dXL_die_14 : decode cXL_die 14 = .ok (.iconst 0, 1) := by decide +kernel
theorem dXL_die_15 : decode cXL_die 15 = .ok (.ireturn, 1) := by decide +kernel
def yXL_replace : MethodName := ⟨"ParityArrayLaw", "replace", "(LParityArray;[J)I"⟩
abbrev cXL_replace : ByteArray := method_6_code
def hhXL_replace : List (Nat × Nat × Nat × Nat) := [(0, 8, 11, 13)]
def wsXL_replace : List Cond := .codeWith yXL_replace cXL_replace 3 (some .int) hhXL_replace :: pz_G
theorem tcXL_replace : (.codeWith yXL_replace cXL_replace 3 (some .int) hhXL_replace : Cond) ∈ pz_G := tw_303
theorem dXL_replace_0 : decode cXL_replace 0 = .ok (.aload_n 1, 1) := by decide +kernel
theorem dXL_replace_1 : decode cXL_replace 1 = .ok (.iconst 0, 1) := by decide +kernel
theorem dXL_replace_2 : decode cXL_replace 2 = .ok (.aload_n 0, 1) := by decide +kernel
theorem dXL_replace_3 : decode cXL_replace 3 = .ok (.invokevirtual 27, 3) := by decide +kernel
theorem dXL_replace_6 : decode cXL_replace 6 = .ok (.i2l, 1) := by decide +kernel
theorem dXL_replace_7 : decode cXL_replace 7 = .ok (.lastore, 1) := by decide +kernel
theorem dXL_replace_8 : decode cXL_replace 8 = .ok (.goto 6, 3) := by decide +kernel
theorem dXL_replace_11 : decode cXL_replace 11 = .ok (.astore_n 2, 1) := by decide +kernel
theorem dXL_replace_12 : decode cXL_replace 12 = .ok (.iconst 1, 1) := by decide +kernel
theorem dXL_replace_13 : decode cXL_replace 13 = .ok (.ireturn, 1) := by decide +kernel
theorem dXL_replace_14 : decode cXL_replace 14 = .ok (.iconst 0, 1) := by decide +kernel
theorem dXL_replace_15 : decode cXL_replace 15 = .ok (.ireturn, 1) := by decide +kernel
def yXL_rebuild : MethodName := ⟨"ParityArrayLaw", "rebuild", "(LParityArray;[J)I"⟩
abbrev cXL_rebuild : ByteArray := method_7_code
def hhXL_rebuild : List (Nat × Nat × Nat × Nat) := [(0, 8, 11, 13)]
def wsXL_rebuild : List Cond := .codeWith yXL_rebuild cXL_rebuild 3 (some .int) hhXL_rebuild :: pz_G
theorem tcXL_rebuild : (.codeWith yXL_rebuild cXL_rebuild 3 (some .int) hhXL_rebuild : Cond) ∈ pz_G := tw_311
theorem dXL_rebuild_0 : decode cXL_rebuild 0 = .ok (.aload_n 1, 1) := by decide +kernel
theorem dXL_rebuild_1 : decode cXL_rebuild 1 = .ok (.iconst 0, 1) := by decide +kernel
theorem dXL_rebuild_2 : decode cXL_rebuild 2 = .ok (.aload_n 0, 1) := by decide +kernel
theorem dXL_rebuild_3 : decode cXL_rebuild 3 = .ok (.invokevirtual 31, 3) := by decide +kernel
theorem dXL_rebuild_6 : decode cXL_rebuild 6 = .ok (.i2l, 1) := by decide +kernel
theorem dXL_rebuild_7 : decode cXL_rebuild 7 = .ok (.lastore, 1) := by decide +kernel
theorem dXL_rebuild_8 : decode cXL_rebuild 8 = .ok (.goto 6, 3) := by decide +kernel
theorem dXL_rebuild_11 : decode cXL_rebuild 11 = .ok (.astore_n 2, 1) := by decide +kernel
theorem dXL_rebuild_12 : decode cXL_rebuild 12 = .ok (.iconst 1, 1) := by decide +kernel
theorem dXL_rebuild_13 : decode cXL_rebuild 13 = .ok (.ireturn, 1) := by decide +kernel
theorem dXL_rebuild_14 : decode cXL_rebuild 14 = .ok (.iconst 0, 1) := by decide +kernel
theorem dXL_rebuild_15 : decode cXL_rebuild 15 = .ok (.ireturn, 1) := by decide +kernel
def yXL_power : MethodName := ⟨"ParityArrayLaw", "power", "(LParityArray;IIZ)I"⟩
abbrev cXL_power : ByteArray := method_8_code
def hhXL_power : List (Nat × Nat × Nat × Nat) := [(0, 7, 10, 38)]
def wsXL_power : List Cond := .codeWith yXL_power cXL_power 5 (some .int) hhXL_power :: pz_G
theorem tcXL_power : (.codeWith yXL_power cXL_power 5 (some .int) hhXL_power : Cond) ∈ pz_G := tw_323
theorem dXL_power_0 : decode cXL_power 0 = .ok (.aload_n 0, 1) := by decide +kernel
theorem dXL_power_1 : decode cXL_power 1 = .ok (.iload_n 1, 1) := by decide +kernel
theorem dXL_power_2 : decode cXL_power 2 = .ok (.iload_n 2, 1) := by decide +kernel
theorem dXL_power_3 : decode cXL_power 3 = .ok (.iload_n 3, 1) := by decide +kernel
theorem dXL_power_4 : decode cXL_power 4 = .ok (.invokevirtual 34, 3) := by decide +kernel
theorem dXL_power_7 : decode cXL_power 7 = .ok (.goto 7, 3) := by decide +kernel
theorem dXL_power_10 : decode cXL_power 10 = .ok (.astore 4, 2) := by decide +kernel
theorem dXL_power_12 : decode cXL_power 12 = .ok (.iconst 1, 1) := by decide +kernel
theorem dXL_power_13 : decode cXL_power 13 = .ok (.ireturn, 1) := by decide +kernel
theorem dXL_power_14 : decode cXL_power 14 = .ok (.iconst 0, 1) := by decide +kernel
theorem dXL_power_15 : decode cXL_power 15 = .ok (.ireturn, 1) := by decide +kernel
def yXL_recover : MethodName := ⟨"ParityArrayLaw", "recover", "(LParityArray;)I"⟩
abbrev cXL_recover : ByteArray := method_9_code
def hhXL_recover : List (Nat × Nat × Nat × Nat) := [(0, 4, 7, 17)]
def wsXL_recover : List Cond := .codeWith yXL_recover cXL_recover 2 (some .int) hhXL_recover :: pz_G
theorem tcXL_recover : (.codeWith yXL_recover cXL_recover 2 (some .int) hhXL_recover : Cond) ∈ pz_G := tw_352
theorem dXL_recover_0 : decode cXL_recover 0 = .ok (.aload_n 0, 1) := by decide +kernel
theorem dXL_recover_1 : decode cXL_recover 1 = .ok (.invokevirtual 40, 3) := by decide +kernel
theorem dXL_recover_4 : decode cXL_recover 4 = .ok (.goto 6, 3) := by decide +kernel
theorem dXL_recover_7 : decode cXL_recover 7 = .ok (.astore_n 1, 1) := by decide +kernel
theorem dXL_recover_8 : decode cXL_recover 8 = .ok (.iconst 1, 1) := by decide +kernel
theorem dXL_recover_9 : decode cXL_recover 9 = .ok (.ireturn, 1) := by decide +kernel
theorem dXL_recover_10 : decode cXL_recover 10 = .ok (.iconst 0, 1) := by decide +kernel
theorem dXL_recover_11 : decode cXL_recover 11 = .ok (.ireturn, 1) := by decide +kernel
def yXL_told : MethodName := ⟨"ParityArrayLaw", "told", "(LParityArray;I[J)I"⟩
abbrev cXL_told : ByteArray := method_10_code
def hhXL_told : List (Nat × Nat × Nat × Nat) := [(0, 9, 12, 38)]
def wsXL_told : List Cond := .codeWith yXL_told cXL_told 4 (some .int) hhXL_told :: pz_G
theorem tcXL_told : (.codeWith yXL_told cXL_told 4 (some .int) hhXL_told : Cond) ∈ pz_G := tw_367
theorem dXL_told_0 : decode cXL_told 0 = .ok (.aload_n 2, 1) := by decide +kernel
theorem dXL_told_1 : decode cXL_told 1 = .ok (.iconst 0, 1) := by decide +kernel
theorem dXL_told_2 : decode cXL_told 2 = .ok (.aload_n 0, 1) := by decide +kernel
theorem dXL_told_3 : decode cXL_told 3 = .ok (.iload_n 1, 1) := by decide +kernel
theorem dXL_told_4 : decode cXL_told 4 = .ok (.invokevirtual 43, 3) := by decide +kernel
theorem dXL_told_7 : decode cXL_told 7 = .ok (.i2l, 1) := by decide +kernel
theorem dXL_told_8 : decode cXL_told 8 = .ok (.lastore, 1) := by decide +kernel
theorem dXL_told_9 : decode cXL_told 9 = .ok (.goto 6, 3) := by decide +kernel
theorem dXL_told_12 : decode cXL_told 12 = .ok (.astore_n 3, 1) := by decide +kernel
theorem dXL_told_13 : decode cXL_told 13 = .ok (.iconst 1, 1) := by decide +kernel
theorem dXL_told_14 : decode cXL_told 14 = .ok (.ireturn, 1) := by decide +kernel
theorem dXL_told_15 : decode cXL_told 15 = .ok (.iconst 0, 1) := by decide +kernel
theorem dXL_told_16 : decode cXL_told 16 = .ok (.ireturn, 1) := by decide +kernel
def yXL_check : MethodName := ⟨"ParityArrayLaw", "check", "(LParityArray;[J)I"⟩
abbrev cXL_check : ByteArray := method_11_code
def hhXL_check : List (Nat × Nat × Nat × Nat) := [(0, 8, 11, 13)]
def wsXL_check : List Cond := .codeWith yXL_check cXL_check 3 (some .int) hhXL_check :: pz_G
theorem tcXL_check : (.codeWith yXL_check cXL_check 3 (some .int) hhXL_check : Cond) ∈ pz_G := tw_375
theorem dXL_check_0 : decode cXL_check 0 = .ok (.aload_n 1, 1) := by decide +kernel
theorem dXL_check_1 : decode cXL_check 1 = .ok (.iconst 0, 1) := by decide +kernel
theorem dXL_check_2 : decode cXL_check 2 = .ok (.aload_n 0, 1) := by decide +kernel
theorem dXL_check_3 : decode cXL_check 3 = .ok (.invokevirtual 47, 3) := by decide +kernel
theorem dXL_check_6 : decode cXL_check 6 = .ok (.i2l, 1) := by decide +kernel
theorem dXL_check_7 : decode cXL_check 7 = .ok (.lastore, 1) := by decide +kernel
theorem dXL_check_8 : decode cXL_check 8 = .ok (.goto 6, 3) := by decide +kernel
theorem dXL_check_11 : decode cXL_check 11 = .ok (.astore_n 2, 1) := by decide +kernel
theorem dXL_check_12 : decode cXL_check 12 = .ok (.iconst 1, 1) := by decide +kernel
theorem dXL_check_13 : decode cXL_check 13 = .ok (.ireturn, 1) := by decide +kernel
theorem dXL_check_14 : decode cXL_check 14 = .ok (.iconst 0, 1) := by decide +kernel
theorem dXL_check_15 : decode cXL_check 15 = .ok (.ireturn, 1) := by decide +kernel
