/-! the law: one turn of its loop, and its walk (laid by a program) -/
set_option maxHeartbeats 4000000 in
set_option maxRecDepth 100000 in
theorem pz_turn_set {p : Program} {e : Env} {s : State} {m : MethodId} {below : List Frame} {meth : Method} {c : Code} (l : Launch) (hl0 : l.stackTraces = false) {b L : Nat} {xs : Nat → Int32} (hx : p.tables.exec = Jvm.exec) (hb : c.code = code) (hml : c.maxLocals = 8) (hown : s.vm.findClass "ParityArrayLaw" = some m.cls) (hts : ∀ w ∈ lw_tbl, w.before #[Value.ref b] s = true) (hX : va_X b L xs s s.heap) (hbl : b < s.heap.size) (hL : L ≤ 2560) {dC : Nat → ClassId} {dI : Nat → Nat → Nat} {sa : Nat → Nat} {a : pz_Ad} {cJ cD cB : ClassId} {o h0 aB : Nat} {A : Nat → Prop} (hAe : (fun q => s.heap.size ≤ q) = A) (hNW : pz_NW s) (hSR : pz_SR sa s) (hZ : pz_ZS A s s.heap) (hCN : pz_CN s) (hK : va_K (dC, dI) vwCl [(cJ, .long), (cD, .object "ParityArray$Disk"), (cB, .byte)] s) {t : Nat} (ht5 : 5 * t + 5 ≤ L) {ls : Array Slot} {H : Heap} {locs : List Loc} {dk : Nat → pz_Dk} {su : pz_Su} {bl pt py ov : Nat → Int64} {f : Nat → Int32} {x : pz_Mu} {th : Nat} (hl : lv_has ls 8 [(4, .int (nI (5 * t))), (3, .ref o), (2, .ref h0), (1, .ref (pz_ax a)), (0, .ref b)]) (hP : va_P (dC, dI) vwCl (pz_WW a cJ cD dk su bl pt py o ov h0 aB cB f x th) H) (hD : va_D A (pz_WW a cJ cD dk su bl pt py o ov h0 aB cB f x th)) (hS : va_S A s.heap H locs) (hI : pz_Inv dk su x) (hBy : pz_By f (pz_mM x)) (hth : th < 10) (ih : ∀ (ls : Array Slot) (H : Heap) (locs : List Loc), (∃ (dk : Nat → pz_Dk) (su : pz_Su) (bl pt py ov : Nat → Int64) (f : Nat → Int32) (x : pz_Mu) (th : Nat), lv_has ls 8 [(4, .int (nI (5 * (t + 1)))), (3, .ref o), (2, .ref h0), (1, .ref (pz_ax a)), (0, .ref b)] ∧ va_P (dC, dI) vwCl (pz_WW a cJ cD dk su bl pt py o ov h0 aB cB f x th) H ∧ va_D A (pz_WW a cJ cD dk su bl pt py o ov h0 aB cB f x th) ∧ va_S A s.heap H locs ∧ pz_Inv dk su x ∧ pz_By f (pz_mM x) ∧ th < 10) → W p l e room_1 s m #[Value.ref b] below meth c H locs (24 + (t + 1)) (88980 + 6 * (t + 1)) (lw_Z below #[Value.ref b] s) (F0 m 23 ls [])) : W p l e room_1 s m #[Value.ref b] below meth c H locs (24 + t) (88980 + 6 * t) (lw_Z below #[Value.ref b] s) (F0 m 88 ls []) := by
  have hA : ∀ q : Nat, s.heap.size ≤ q → A q := fun q h => by rw [← hAe]; exact h
  have hbA : ¬ A b := by rw [← hAe]; exact Nat.not_le.mpr hbl
  obtain ⟨hm1, hm2, hm3, hm4, hm5, hm6⟩ := hI.m
  refine lv_aload_n hx hb dXL_law_88 rfl (lv_at hl 3 rfl) ?_
  refine lv_aload_n hx hb dXL_law_89 rfl (lv_at hl 4 rfl) ?_
  refine lv_iload hx hb dXL_law_90 (lv_at hl 0 rfl) ?_
  refine lv_iconst (v := nI 1) hx hb dXL_law_92 (by decide) ?_
  refine lv_iadd hx hb dXL_law_93 ?_
  refine lv_topi (nm_r (nI_add (5 * t) 1) ?_)
  refine va_sld hx hb hX hbl hbA hS (vp_in_nI (show (5 * t) + 1 < L by omega) (by omega)) dXL_law_94 ?_
  refine lv_topi (nm_r (congrArg xs (nI_clamp (by omega))) ?_)
  refine lv_aload_n hx hb dXL_law_95 rfl (lv_at hl 4 rfl) ?_
  refine lv_iload hx hb dXL_law_96 (lv_at hl 0 rfl) ?_
  refine lv_iconst (v := nI 2) hx hb dXL_law_98 (by decide) ?_
  refine lv_iadd hx hb dXL_law_99 ?_
  refine lv_topi (nm_r (nI_add (5 * t) 2) ?_)
  refine va_sld hx hb hX hbl hbA hS (vp_in_nI (show (5 * t) + 2 < L by omega) (by omega)) dXL_law_100 ?_
  refine lv_topi (nm_r (congrArg xs (nI_clamp (by omega))) ?_)
  refine lv_aload_n hx hb dXL_law_101 rfl (lv_at hl 4 rfl) ?_
  refine lv_iload hx hb dXL_law_102 (lv_at hl 0 rfl) ?_
  refine lv_iconst (v := nI 3) hx hb dXL_law_104 (by decide) ?_
  refine lv_iadd hx hb dXL_law_105 ?_
  refine lv_topi (nm_r (nI_add (5 * t) 3) ?_)
  refine va_sld hx hb hX hbl hbA hS (vp_in_nI (show (5 * t) + 3 < L by omega) (by omega)) dXL_law_106 ?_
  refine lv_topi (nm_r (congrArg xs (nI_clamp (by omega))) ?_)
  refine lv_i2l (v := (xs ((5 * t) + 3)).toInt64) hx hb dXL_law_107 rfl ?_
  refine lv_bipush (v := nI 32) hx hb dXL_law_108 (by decide) ?_
  refine lv_lshl (v := ((xs ((5 * t) + 3)).toInt64) <<< ((nI 32).toInt64 &&& 63)) hx hb dXL_law_110 rfl ?_
  refine lv_aload_n hx hb dXL_law_111 rfl (lv_at hl 4 rfl) ?_
  refine lv_iload hx hb dXL_law_112 (lv_at hl 0 rfl) ?_
  refine lv_iconst (v := nI 4) hx hb dXL_law_114 (by decide) ?_
  refine lv_iadd hx hb dXL_law_115 ?_
  refine lv_topi (nm_r (nI_add (5 * t) 4) ?_)
  refine va_sld hx hb hX hbl hbA hS (vp_in_nI (show (5 * t) + 4 < L by omega) (by omega)) dXL_law_116 ?_
  refine lv_topi (nm_r (congrArg xs (nI_clamp (by omega))) ?_)
  refine lv_i2l (v := (xs ((5 * t) + 4)).toInt64) hx hb dXL_law_117 rfl ?_
  refine lv_ldc2 (v := 4294967295) hx hb hown (hts _ (List.mem_filter.mp tw_475).1) dXL_law_118 ?_
  refine lv_land hx hb dXL_law_121 ?_
  refine lv_lor hx hb dXL_law_122 ?_
  refine lv_topl (fun w0 hw0 => ?_)
  refine lv_aload_n hx hb dXL_law_123 rfl (lv_at hl 1 rfl) ?_
  have hPc := pz_G_P hP
  have hDc := pz_G_D hD
  have hFc := pz_G_F hD hS hA
  have hZc := (hZ.kept hS.2.1).narrow hFc
  refine va_calli (vx_runSW (As := [.ref (pz_ax a), .int (xs ((5 * t) + 1)), .int (xs ((5 * t) + 2)), .long w0, .ref o]) (rest := []) ⟨hx, hb, hml, hown, hts⟩ (c_XL_set l hl0 dC dI _ a cJ cD dk su bl pt py o ov sa x (xs (5 * t + 1)) (xs (5 * t + 2)) w0 hI) (vx_cwSW 5 hts (pz_gc (List.mem_filter.mp tw_96).1 rfl (pz_gc (List.mem_filter.mp tw_97).1 rfl (pz_gc (List.mem_filter.mp tw_0).1 rfl (pz_gl tcXL_set)))) rfl rfl rfl (by decide +kernel) ⟨Nat.le_of_ble_eq_true rfl, Nat.le_of_ble_eq_true rfl⟩) (pz_preSx hPc (hK.sub [0, 1] rfl) hDc hNW hSR hZc hCN) rfl rfl hl.1 rfl (lv_room (Nat.le_of_ble_eq_true rfl)) dXL_law_124 ⟨(show 24 + t + 1 ≤ 601024 by omega), (show 88980 + 6 * t + 6 ≤ 7293033 by omega)⟩) hS (fun q _ h => hFc q h) hFc (fun r u t9 H1 locs ht hvm hw hB hz hk1 hS => ?_)
  obtain ⟨⟨dk1, su1, bl1, pt1, py1⟩, ov1⟩ := u
  obtain ⟨hP1, hK1, hD1⟩ := hB
  rw [ht] at hP1
  dsimp only at hw hP1 hD1
  obtain ⟨rfl, hans, hI1⟩ := hw
  obtain ⟨hP, hD⟩ := pz_G_J hP hD hk1 hFc hP1 hD1
  clear hPc hDc hFc hZc hP1 hD1 hK1 hk1 hz ht hvm
  generalize H1 = H at hP hS ⊢
  refine lv_istore hx hb dXL_law_127 hl (by decide) rfl (fun ls hl => ?_)
  have hl : lv_has ls 8 [(5, .int (nI (pz_gS x (xs (5 * t + 1)) (xs (5 * t + 2)) w0).2.2)), (4, .int (nI (5 * t))), (3, .ref o), (2, .ref h0), (1, .ref (pz_ax a)), (0, .ref b)] := hl
  refine lv_aload_n hx hb dXL_law_129 rfl (lv_at hl 3 rfl) ?_
  refine lv_aload_n hx hb dXL_law_130 rfl (lv_at hl 5 rfl) ?_
  refine lv_iload hx hb dXL_law_131 (lv_at hl 1 rfl) ?_
  refine lv_iconst (v := nI 1) hx hb dXL_law_133 (by decide) ?_
  refine lv_iadd hx hb dXL_law_134 ?_
  refine lv_topi (nm_r (nI_add (5 * t) 1) ?_)
  refine va_sld hx hb hX hbl hbA hS (vp_in_nI (show (5 * t) + 1 < L by omega) (by omega)) dXL_law_135 ?_
  refine lv_topi (nm_r (congrArg xs (nI_clamp (by omega))) ?_)
  refine lv_aload_n hx hb dXL_law_136 rfl (lv_at hl 5 rfl) ?_
  refine lv_iload hx hb dXL_law_137 (lv_at hl 1 rfl) ?_
  refine lv_iconst (v := nI 2) hx hb dXL_law_139 (by decide) ?_
  refine lv_iadd hx hb dXL_law_140 ?_
  refine lv_topi (nm_r (nI_add (5 * t) 2) ?_)
  refine va_sld hx hb hX hbl hbA hS (vp_in_nI (show (5 * t) + 2 < L by omega) (by omega)) dXL_law_141 ?_
  refine lv_topi (nm_r (congrArg xs (nI_clamp (by omega))) ?_)
  refine lv_aload_n hx hb dXL_law_142 rfl (lv_at hl 5 rfl) ?_
  refine lv_iload hx hb dXL_law_143 (lv_at hl 1 rfl) ?_
  refine lv_iconst (v := nI 3) hx hb dXL_law_145 (by decide) ?_
  refine lv_iadd hx hb dXL_law_146 ?_
  refine lv_topi (nm_r (nI_add (5 * t) 3) ?_)
  refine va_sld hx hb hX hbl hbA hS (vp_in_nI (show (5 * t) + 3 < L by omega) (by omega)) dXL_law_147 ?_
  refine lv_topi (nm_r (congrArg xs (nI_clamp (by omega))) ?_)
  refine lv_i2l (v := (xs ((5 * t) + 3)).toInt64) hx hb dXL_law_148 rfl ?_
  refine lv_bipush (v := nI 32) hx hb dXL_law_149 (by decide) ?_
  refine lv_lshl (v := ((xs ((5 * t) + 3)).toInt64) <<< ((nI 32).toInt64 &&& 63)) hx hb dXL_law_151 rfl ?_
  refine lv_aload_n hx hb dXL_law_152 rfl (lv_at hl 5 rfl) ?_
  refine lv_iload hx hb dXL_law_153 (lv_at hl 1 rfl) ?_
  refine lv_iconst (v := nI 4) hx hb dXL_law_155 (by decide) ?_
  refine lv_iadd hx hb dXL_law_156 ?_
  refine lv_topi (nm_r (nI_add (5 * t) 4) ?_)
  refine va_sld hx hb hX hbl hbA hS (vp_in_nI (show (5 * t) + 4 < L by omega) (by omega)) dXL_law_157 ?_
  refine lv_topi (nm_r (congrArg xs (nI_clamp (by omega))) ?_)
  refine lv_i2l (v := (xs ((5 * t) + 4)).toInt64) hx hb dXL_law_158 rfl ?_
  refine lv_ldc2 (v := 4294967295) hx hb hown (hts _ (List.mem_filter.mp tw_475).1) dXL_law_159 ?_
  refine lv_land hx hb dXL_law_162 ?_
  refine lv_lor hx hb dXL_law_163 ?_
  refine lv_topl (nm_r (hw0.symm) ?_)
  have hPc := pz_M_P hP
  have hDc := pz_M_D hD
  have hFc := pz_M_F hD hS hA
  refine va_calll (va_runV (As := [.int (xs ((5 * t) + 1)), .int (xs ((5 * t) + 2)), .long w0]) (rest := []) ⟨hx, hb, hml, hown, hts⟩ (c_XM_set l dC dI _ h0 aB cB f x th (xs (5 * t + 1)) (xs (5 * t + 2)) w0 hm1 hm2 hm3 hm4 hm5 hth hBy) (cwV 3 hts (pz_gc (List.mem_filter.mp tw_423).1 rfl (pz_gc (List.mem_filter.mp tw_424).1 rfl (pz_gc (List.mem_filter.mp tw_425).1 rfl (pz_gc (List.mem_filter.mp tw_4).1 rfl (pz_gl tcXM_set))))) rfl rfl rfl (by decide +kernel) ⟨Nat.le_of_ble_eq_true rfl, Nat.le_of_ble_eq_true rfl⟩) (pz_preVw (va_recv hK hPc (q0 := 0) rfl rfl) hPc (hK.sub [2] rfl) hDc) rfl rfl hl.1 rfl (lv_room (Nat.le_of_ble_eq_true rfl)) dXL_law_164 ⟨(show 24 + t + 1 + 0 ≤ 601024 by omega), (show 88980 + 6 * t + 6 + 0 ≤ 7293033 by omega)⟩) hS (fun q _ h => hFc q h) hFc (fun r u t9 H1 locs ht hvm hw hB hz hk1 hS => ?_)
  obtain ⟨x1, th1, f1⟩ := u
  obtain ⟨hP1, hK1, hD1⟩ := hB
  rw [ht] at hP1
  dsimp only at hw hP1 hD1
  obtain ⟨hg, hBy1⟩ := hw; obtain rfl : r = (pz_gS x (xs (5 * t + 1)) (xs (5 * t + 2)) w0).1 := congrArg Prod.fst hg; obtain rfl : x1 = (pz_gS x (xs (5 * t + 1)) (xs (5 * t + 2)) w0).2.1 := congrArg (fun z => z.2.1) hg; obtain rfl : th1 = (pz_gS x (xs (5 * t + 1)) (xs (5 * t + 2)) w0).2.2 := congrArg (fun z => z.2.2) hg
  obtain ⟨hP, hD⟩ := pz_M_J hP hD hk1 hFc hP1 hD1
  clear hPc hDc hFc hP1 hD1 hK1 hk1 hz ht hvm
  generalize H1 = H at hP hS ⊢
  have hcb := pz_gS_c x (xs (5 * t + 1)) (xs (5 * t + 2)) w0
  refine lv_lstore hx hb dXL_law_167 hl (by decide) rfl (fun ls hl => ?_)
  have hl : lv_has ls 8 [(6, .long ((pz_gS x (xs (5 * t + 1)) (xs (5 * t + 2)) w0).1)), (5, .int (nI (pz_gS x (xs (5 * t + 1)) (xs (5 * t + 2)) w0).2.2)), (4, .int (nI (5 * t))), (3, .ref o), (2, .ref h0), (1, .ref (pz_ax a)), (0, .ref b)] := hl
  refine lv_aload_n hx hb dXL_law_169 rfl (lv_at hl 4 rfl) ?_
  refine va_calli (va_runV (As := []) (rest := []) ⟨hx, hb, hml, hown, hts⟩ (c_XM_thrown l dC dI h0 aB cB f1 ((pz_gS x (xs (5 * t + 1)) (xs (5 * t + 2)) w0).2.1) ((pz_gS x (xs (5 * t + 1)) (xs (5 * t + 2)) w0).2.2)) (cwV 0 hts (pz_gc (List.mem_filter.mp tw_419).1 rfl (pz_gc (List.mem_filter.mp tw_420).1 rfl (pz_gc (List.mem_filter.mp tw_421).1 rfl (pz_gc (List.mem_filter.mp tw_4).1 rfl (pz_gl tcXM_thrown))))) rfl rfl rfl (by decide +kernel) ⟨Nat.le_of_ble_eq_true rfl, Nat.le_of_ble_eq_true rfl⟩) (pz_preV (va_recv hK (pz_M_P hP) (q0 := 0) rfl rfl) (pz_M_P hP) (hK.sub [2] rfl)) rfl rfl hl.1 rfl (lv_room (Nat.le_of_ble_eq_true rfl)) dXL_law_170 ⟨(show 24 + t + 1 + 0 ≤ 601024 by omega), (show 88980 + 6 * t + 6 + 0 ≤ 7293033 by omega)⟩) hS (fun q _ h => h.elim) (fun q h => h.elim) (fun r u t9 H locs ht hvm hw _ hz hk9 hS => ?_)
  have hP := pz_keep hP hk9
  clear hk9 hz ht hvm
  subst hw
  refine lv_iload hx hb dXL_law_173 (lv_at hl 1 rfl) ?_
  refine lv_icmp_eq (tgt := 180) hx hb dXL_law_175 (by decide) (fun _ => ?_) (fun hc => absurd hc (fun h9 => h9 rfl))
  refine lv_iload hx hb dXL_law_180 (lv_at hl 1 rfl) ?_
  refine lv_if_ne (tgt := 196) hx hb dXL_law_182 (by decide) (fun hc => ?_) (fun hc => ?_)
  · refine lv_goto (tgt := 590) hx hb dXL_law_196 (by decide) ?_
    refine lv_iinc (k := 2) (v := nI (5 * (t + 1))) hx hb dXL_law_590 hl rfl (show nI (5 * t) + nI 5 = nI (5 * (t + 1)) from by rw [nI_add]; rfl) (by decide) rfl (fun ls hl => ?_)
    have hl : lv_has ls 8 [(4, .int (nI (5 * (t + 1)))), (6, .long ((pz_gS x (xs (5 * t + 1)) (xs (5 * t + 2)) w0).1)), (5, .int (nI (pz_gS x (xs (5 * t + 1)) (xs (5 * t + 2)) w0).2.2)), (3, .ref o), (2, .ref h0), (1, .ref (pz_ax a)), (0, .ref b)] := hl
    refine lv_goto (tgt := 23) hx hb dXL_law_593 (by decide) ?_
    refine W.widen (k := 24 + (t + 1)) (n := 88980 + 6 * (t + 1)) (by omega) (by omega) ?_
    exact ih _ _ _ ⟨_, _, _, _, _, _, _, _, _, lv_sub hl [0, 3, 4, 5, 6] rfl, hP, hD, hS, hI1, hBy1, by omega⟩
  · have hc0 := (nI_eq (a := ((pz_gS x (xs (5 * t + 1)) (xs (5 * t + 2)) w0).2.2)) (b := 0) (by omega) (by decide)).mp hc
    refine lv_aload_n hx hb dXL_law_185 rfl (lv_at hl 3 rfl) ?_
    refine lv_iconst (v := nI 0) hx hb dXL_law_186 (by decide) ?_
    refine va_lald hx hb hK hP 21 0 rfl rfl (vp_in_nI (by decide) (by decide)) dXL_law_187 ?_
    refine lv_topl (nm_r (congrArg ov1 (nI_clamp (by decide))) ?_)
    refine lv_lload hx hb dXL_law_188 (lv_at hl 0 rfl) ?_
    refine W.lcmp hx hb dXL_law_190 ?_
    refine lv_if_eq (tgt := 196) hx hb dXL_law_191 (by decide) (fun _ => ?_) (fun hc => absurd hc (fun h9 => h9 ((lg_cmp_eq _ _).mpr (hans hc0))))
    refine lv_goto (tgt := 590) hx hb dXL_law_196 (by decide) ?_
    refine lv_iinc (k := 2) (v := nI (5 * (t + 1))) hx hb dXL_law_590 hl rfl (show nI (5 * t) + nI 5 = nI (5 * (t + 1)) from by rw [nI_add]; rfl) (by decide) rfl (fun ls hl => ?_)
    have hl : lv_has ls 8 [(4, .int (nI (5 * (t + 1)))), (6, .long ((pz_gS x (xs (5 * t + 1)) (xs (5 * t + 2)) w0).1)), (5, .int (nI (pz_gS x (xs (5 * t + 1)) (xs (5 * t + 2)) w0).2.2)), (3, .ref o), (2, .ref h0), (1, .ref (pz_ax a)), (0, .ref b)] := hl
    refine lv_goto (tgt := 23) hx hb dXL_law_593 (by decide) ?_
    refine W.widen (k := 24 + (t + 1)) (n := 88980 + 6 * (t + 1)) (by omega) (by omega) ?_
    exact ih _ _ _ ⟨_, _, _, _, _, _, _, _, _, lv_sub hl [0, 3, 4, 5, 6] rfl, hP, hD, hS, hI1, hBy1, by omega⟩

set_option maxHeartbeats 4000000 in
set_option maxRecDepth 100000 in
theorem pz_turn_get {p : Program} {e : Env} {s : State} {m : MethodId} {below : List Frame} {meth : Method} {c : Code} (l : Launch) (hl0 : l.stackTraces = false) {b L : Nat} {xs : Nat → Int32} (hx : p.tables.exec = Jvm.exec) (hb : c.code = code) (hml : c.maxLocals = 8) (hown : s.vm.findClass "ParityArrayLaw" = some m.cls) (hts : ∀ w ∈ lw_tbl, w.before #[Value.ref b] s = true) (hX : va_X b L xs s s.heap) (hbl : b < s.heap.size) (hL : L ≤ 2560) {dC : Nat → ClassId} {dI : Nat → Nat → Nat} {sa : Nat → Nat} {a : pz_Ad} {cJ cD cB : ClassId} {o h0 aB : Nat} {A : Nat → Prop} (hAe : (fun q => s.heap.size ≤ q) = A) (hNW : pz_NW s) (hSR : pz_SR sa s) (hZ : pz_ZS A s s.heap) (hCN : pz_CN s) (hK : va_K (dC, dI) vwCl [(cJ, .long), (cD, .object "ParityArray$Disk"), (cB, .byte)] s) {t : Nat} (ht5 : 5 * t + 5 ≤ L) {ls : Array Slot} {H : Heap} {locs : List Loc} {dk : Nat → pz_Dk} {su : pz_Su} {bl pt py ov : Nat → Int64} {f : Nat → Int32} {x : pz_Mu} {th : Nat} (hl : lv_has ls 8 [(4, .int (nI (5 * t))), (3, .ref o), (2, .ref h0), (1, .ref (pz_ax a)), (0, .ref b)]) (hP : va_P (dC, dI) vwCl (pz_WW a cJ cD dk su bl pt py o ov h0 aB cB f x th) H) (hD : va_D A (pz_WW a cJ cD dk su bl pt py o ov h0 aB cB f x th)) (hS : va_S A s.heap H locs) (hI : pz_Inv dk su x) (hBy : pz_By f (pz_mM x)) (hth : th < 10) (ih : ∀ (ls : Array Slot) (H : Heap) (locs : List Loc), (∃ (dk : Nat → pz_Dk) (su : pz_Su) (bl pt py ov : Nat → Int64) (f : Nat → Int32) (x : pz_Mu) (th : Nat), lv_has ls 8 [(4, .int (nI (5 * (t + 1)))), (3, .ref o), (2, .ref h0), (1, .ref (pz_ax a)), (0, .ref b)] ∧ va_P (dC, dI) vwCl (pz_WW a cJ cD dk su bl pt py o ov h0 aB cB f x th) H ∧ va_D A (pz_WW a cJ cD dk su bl pt py o ov h0 aB cB f x th) ∧ va_S A s.heap H locs ∧ pz_Inv dk su x ∧ pz_By f (pz_mM x) ∧ th < 10) → W p l e room_1 s m #[Value.ref b] below meth c H locs (24 + (t + 1)) (88980 + 6 * (t + 1)) (lw_Z below #[Value.ref b] s) (F0 m 23 ls [])) : W p l e room_1 s m #[Value.ref b] below meth c H locs (24 + t) (88980 + 6 * t) (lw_Z below #[Value.ref b] s) (F0 m 199 ls []) := by
  have hA : ∀ q : Nat, s.heap.size ≤ q → A q := fun q h => by rw [← hAe]; exact h
  have hbA : ¬ A b := by rw [← hAe]; exact Nat.not_le.mpr hbl
  obtain ⟨hm1, hm2, hm3, hm4, hm5, hm6⟩ := hI.m
  refine lv_aload_n hx hb dXL_law_199 rfl (lv_at hl 3 rfl) ?_
  refine lv_aload_n hx hb dXL_law_200 rfl (lv_at hl 4 rfl) ?_
  refine lv_iload hx hb dXL_law_201 (lv_at hl 0 rfl) ?_
  refine lv_iconst (v := nI 1) hx hb dXL_law_203 (by decide) ?_
  refine lv_iadd hx hb dXL_law_204 ?_
  refine lv_topi (nm_r (nI_add (5 * t) 1) ?_)
  refine va_sld hx hb hX hbl hbA hS (vp_in_nI (show (5 * t) + 1 < L by omega) (by omega)) dXL_law_205 ?_
  refine lv_topi (nm_r (congrArg xs (nI_clamp (by omega))) ?_)
  refine lv_aload_n hx hb dXL_law_206 rfl (lv_at hl 4 rfl) ?_
  refine lv_iload hx hb dXL_law_207 (lv_at hl 0 rfl) ?_
  refine lv_iconst (v := nI 2) hx hb dXL_law_209 (by decide) ?_
  refine lv_iadd hx hb dXL_law_210 ?_
  refine lv_topi (nm_r (nI_add (5 * t) 2) ?_)
  refine va_sld hx hb hX hbl hbA hS (vp_in_nI (show (5 * t) + 2 < L by omega) (by omega)) dXL_law_211 ?_
  refine lv_topi (nm_r (congrArg xs (nI_clamp (by omega))) ?_)
  refine lv_aload_n hx hb dXL_law_212 rfl (lv_at hl 1 rfl) ?_
  have hPc := pz_G_P hP
  have hDc := pz_G_D hD
  have hFc := pz_G_F hD hS hA
  have hZc := (hZ.kept hS.2.1).narrow hFc
  refine va_calli (vx_runSW (As := [.ref (pz_ax a), .int (xs ((5 * t) + 1)), .int (xs ((5 * t) + 2)), .ref o]) (rest := []) ⟨hx, hb, hml, hown, hts⟩ (c_XL_get l hl0 dC dI _ a cJ cD dk su bl pt py o ov sa x (xs (5 * t + 1)) (xs (5 * t + 2)) hI) (vx_cwSW 4 hts (pz_gc (List.mem_filter.mp tw_270).1 rfl (pz_gc (List.mem_filter.mp tw_271).1 rfl (pz_gc (List.mem_filter.mp tw_0).1 rfl (pz_gl tcXL_get)))) rfl rfl rfl (by decide +kernel) ⟨Nat.le_of_ble_eq_true rfl, Nat.le_of_ble_eq_true rfl⟩) (pz_preSx hPc (hK.sub [0, 1] rfl) hDc hNW hSR hZc hCN) rfl rfl hl.1 rfl (lv_room (Nat.le_of_ble_eq_true rfl)) dXL_law_213 ⟨(show 24 + t + 1 ≤ 601024 by omega), (show 88980 + 6 * t + 6 ≤ 7293033 by omega)⟩) hS (fun q _ h => hFc q h) hFc (fun r u t9 H1 locs ht hvm hw hB hz hk1 hS => ?_)
  obtain ⟨⟨dk1, su1, bl1, pt1, py1⟩, ov1⟩ := u
  obtain ⟨hP1, hK1, hD1⟩ := hB
  rw [ht] at hP1
  dsimp only at hw hP1 hD1
  obtain ⟨rfl, hans, hI1⟩ := hw
  obtain ⟨hP, hD⟩ := pz_G_J hP hD hk1 hFc hP1 hD1
  clear hPc hDc hFc hZc hP1 hD1 hK1 hk1 hz ht hvm
  generalize H1 = H at hP hS ⊢
  refine lv_istore hx hb dXL_law_216 hl (by decide) rfl (fun ls hl => ?_)
  have hl : lv_has ls 8 [(5, .int (nI (pz_gG x (xs (5 * t + 1)) (xs (5 * t + 2))).2)), (4, .int (nI (5 * t))), (3, .ref o), (2, .ref h0), (1, .ref (pz_ax a)), (0, .ref b)] := hl
  refine lv_aload_n hx hb dXL_law_218 rfl (lv_at hl 3 rfl) ?_
  refine lv_aload_n hx hb dXL_law_219 rfl (lv_at hl 5 rfl) ?_
  refine lv_iload hx hb dXL_law_220 (lv_at hl 1 rfl) ?_
  refine lv_iconst (v := nI 1) hx hb dXL_law_222 (by decide) ?_
  refine lv_iadd hx hb dXL_law_223 ?_
  refine lv_topi (nm_r (nI_add (5 * t) 1) ?_)
  refine va_sld hx hb hX hbl hbA hS (vp_in_nI (show (5 * t) + 1 < L by omega) (by omega)) dXL_law_224 ?_
  refine lv_topi (nm_r (congrArg xs (nI_clamp (by omega))) ?_)
  refine lv_aload_n hx hb dXL_law_225 rfl (lv_at hl 5 rfl) ?_
  refine lv_iload hx hb dXL_law_226 (lv_at hl 1 rfl) ?_
  refine lv_iconst (v := nI 2) hx hb dXL_law_228 (by decide) ?_
  refine lv_iadd hx hb dXL_law_229 ?_
  refine lv_topi (nm_r (nI_add (5 * t) 2) ?_)
  refine va_sld hx hb hX hbl hbA hS (vp_in_nI (show (5 * t) + 2 < L by omega) (by omega)) dXL_law_230 ?_
  refine lv_topi (nm_r (congrArg xs (nI_clamp (by omega))) ?_)
  have hPc := pz_M_P hP
  have hDc := pz_M_D hD
  have hFc := pz_M_F hD hS hA
  refine va_calll (va_runV (As := [.int (xs ((5 * t) + 1)), .int (xs ((5 * t) + 2))]) (rest := []) ⟨hx, hb, hml, hown, hts⟩ (c_XM_get l dC dI _ h0 aB cB f x th (xs (5 * t + 1)) (xs (5 * t + 2)) hm1 hm2 hm3 hm4 hm5 hth hBy) (cwV 2 hts (pz_gc (List.mem_filter.mp tw_443).1 rfl (pz_gc (List.mem_filter.mp tw_444).1 rfl (pz_gc (List.mem_filter.mp tw_445).1 rfl (pz_gc (List.mem_filter.mp tw_4).1 rfl (pz_gl tcXM_get))))) rfl rfl rfl (by decide +kernel) ⟨Nat.le_of_ble_eq_true rfl, Nat.le_of_ble_eq_true rfl⟩) (pz_preVw (va_recv hK hPc (q0 := 0) rfl rfl) hPc (hK.sub [2] rfl) hDc) rfl rfl hl.1 rfl (lv_room (Nat.le_of_ble_eq_true rfl)) dXL_law_231 ⟨(show 24 + t + 1 + 0 ≤ 601024 by omega), (show 88980 + 6 * t + 6 + 0 ≤ 7293033 by omega)⟩) hS (fun q _ h => hFc q h) hFc (fun r u t9 H1 locs ht hvm hw hB hz hk1 hS => ?_)
  obtain ⟨x1, th1, f1⟩ := u
  obtain ⟨hP1, hK1, hD1⟩ := hB
  rw [ht] at hP1
  dsimp only at hw hP1 hD1
  obtain ⟨hg, hx1, hf1⟩ := hw; obtain rfl : r = (pz_gG x (xs (5 * t + 1)) (xs (5 * t + 2))).1 := congrArg Prod.fst hg; obtain rfl : th1 = (pz_gG x (xs (5 * t + 1)) (xs (5 * t + 2))).2 := congrArg Prod.snd hg; obtain rfl : x = x1 := Eq.symm hx1; obtain rfl : f = f1 := Eq.symm hf1
  obtain ⟨hP, hD⟩ := pz_M_J hP hD hk1 hFc hP1 hD1
  clear hPc hDc hFc hP1 hD1 hK1 hk1 hz ht hvm
  generalize H1 = H at hP hS ⊢
  have hcb := pz_gG_c x (xs (5 * t + 1)) (xs (5 * t + 2))
  refine lv_lstore hx hb dXL_law_234 hl (by decide) rfl (fun ls hl => ?_)
  have hl : lv_has ls 8 [(6, .long ((pz_gG x (xs (5 * t + 1)) (xs (5 * t + 2))).1)), (5, .int (nI (pz_gG x (xs (5 * t + 1)) (xs (5 * t + 2))).2)), (4, .int (nI (5 * t))), (3, .ref o), (2, .ref h0), (1, .ref (pz_ax a)), (0, .ref b)] := hl
  refine lv_aload_n hx hb dXL_law_236 rfl (lv_at hl 4 rfl) ?_
  refine va_calli (va_runV (As := []) (rest := []) ⟨hx, hb, hml, hown, hts⟩ (c_XM_thrown l dC dI h0 aB cB f x ((pz_gG x (xs (5 * t + 1)) (xs (5 * t + 2))).2)) (cwV 0 hts (pz_gc (List.mem_filter.mp tw_419).1 rfl (pz_gc (List.mem_filter.mp tw_420).1 rfl (pz_gc (List.mem_filter.mp tw_421).1 rfl (pz_gc (List.mem_filter.mp tw_4).1 rfl (pz_gl tcXM_thrown))))) rfl rfl rfl (by decide +kernel) ⟨Nat.le_of_ble_eq_true rfl, Nat.le_of_ble_eq_true rfl⟩) (pz_preV (va_recv hK (pz_M_P hP) (q0 := 0) rfl rfl) (pz_M_P hP) (hK.sub [2] rfl)) rfl rfl hl.1 rfl (lv_room (Nat.le_of_ble_eq_true rfl)) dXL_law_237 ⟨(show 24 + t + 1 + 0 ≤ 601024 by omega), (show 88980 + 6 * t + 6 + 0 ≤ 7293033 by omega)⟩) hS (fun q _ h => h.elim) (fun q h => h.elim) (fun r u t9 H locs ht hvm hw _ hz hk9 hS => ?_)
  have hP := pz_keep hP hk9
  clear hk9 hz ht hvm
  subst hw
  refine lv_iload hx hb dXL_law_240 (lv_at hl 1 rfl) ?_
  refine lv_icmp_eq (tgt := 247) hx hb dXL_law_242 (by decide) (fun _ => ?_) (fun hc => absurd hc (fun h9 => h9 rfl))
  refine lv_iload hx hb dXL_law_247 (lv_at hl 1 rfl) ?_
  refine lv_if_ne (tgt := 263) hx hb dXL_law_249 (by decide) (fun hc => ?_) (fun hc => ?_)
  · refine lv_goto (tgt := 590) hx hb dXL_law_263 (by decide) ?_
    refine lv_iinc (k := 2) (v := nI (5 * (t + 1))) hx hb dXL_law_590 hl rfl (show nI (5 * t) + nI 5 = nI (5 * (t + 1)) from by rw [nI_add]; rfl) (by decide) rfl (fun ls hl => ?_)
    have hl : lv_has ls 8 [(4, .int (nI (5 * (t + 1)))), (6, .long ((pz_gG x (xs (5 * t + 1)) (xs (5 * t + 2))).1)), (5, .int (nI (pz_gG x (xs (5 * t + 1)) (xs (5 * t + 2))).2)), (3, .ref o), (2, .ref h0), (1, .ref (pz_ax a)), (0, .ref b)] := hl
    refine lv_goto (tgt := 23) hx hb dXL_law_593 (by decide) ?_
    refine W.widen (k := 24 + (t + 1)) (n := 88980 + 6 * (t + 1)) (by omega) (by omega) ?_
    exact ih _ _ _ ⟨_, _, _, _, _, _, _, _, _, lv_sub hl [0, 3, 4, 5, 6] rfl, hP, hD, hS, hI1, hBy, by omega⟩
  · have hc0 := (nI_eq (a := ((pz_gG x (xs (5 * t + 1)) (xs (5 * t + 2))).2)) (b := 0) (by omega) (by decide)).mp hc
    refine lv_aload_n hx hb dXL_law_252 rfl (lv_at hl 3 rfl) ?_
    refine lv_iconst (v := nI 0) hx hb dXL_law_253 (by decide) ?_
    refine va_lald hx hb hK hP 21 0 rfl rfl (vp_in_nI (by decide) (by decide)) dXL_law_254 ?_
    refine lv_topl (nm_r (congrArg ov1 (nI_clamp (by decide))) ?_)
    refine lv_lload hx hb dXL_law_255 (lv_at hl 0 rfl) ?_
    refine W.lcmp hx hb dXL_law_257 ?_
    refine lv_if_eq (tgt := 263) hx hb dXL_law_258 (by decide) (fun _ => ?_) (fun hc => absurd hc (fun h9 => h9 ((lg_cmp_eq _ _).mpr (hans hc0))))
    refine lv_goto (tgt := 590) hx hb dXL_law_263 (by decide) ?_
    refine lv_iinc (k := 2) (v := nI (5 * (t + 1))) hx hb dXL_law_590 hl rfl (show nI (5 * t) + nI 5 = nI (5 * (t + 1)) from by rw [nI_add]; rfl) (by decide) rfl (fun ls hl => ?_)
    have hl : lv_has ls 8 [(4, .int (nI (5 * (t + 1)))), (6, .long ((pz_gG x (xs (5 * t + 1)) (xs (5 * t + 2))).1)), (5, .int (nI (pz_gG x (xs (5 * t + 1)) (xs (5 * t + 2))).2)), (3, .ref o), (2, .ref h0), (1, .ref (pz_ax a)), (0, .ref b)] := hl
    refine lv_goto (tgt := 23) hx hb dXL_law_593 (by decide) ?_
    refine W.widen (k := 24 + (t + 1)) (n := 88980 + 6 * (t + 1)) (by omega) (by omega) ?_
    exact ih _ _ _ ⟨_, _, _, _, _, _, _, _, _, lv_sub hl [0, 3, 4, 5, 6] rfl, hP, hD, hS, hI1, hBy, by omega⟩

set_option maxHeartbeats 4000000 in
set_option maxRecDepth 100000 in
theorem pz_turn_die {p : Program} {e : Env} {s : State} {m : MethodId} {below : List Frame} {meth : Method} {c : Code} (l : Launch) (hl0 : l.stackTraces = false) {b L : Nat} {xs : Nat → Int32} (hx : p.tables.exec = Jvm.exec) (hb : c.code = code) (hml : c.maxLocals = 8) (hown : s.vm.findClass "ParityArrayLaw" = some m.cls) (hts : ∀ w ∈ lw_tbl, w.before #[Value.ref b] s = true) (hX : va_X b L xs s s.heap) (hbl : b < s.heap.size) (hL : L ≤ 2560) {dC : Nat → ClassId} {dI : Nat → Nat → Nat} {sa : Nat → Nat} {a : pz_Ad} {cJ cD cB : ClassId} {o h0 aB : Nat} {A : Nat → Prop} (hAe : (fun q => s.heap.size ≤ q) = A) (hNW : pz_NW s) (hSR : pz_SR sa s) (hZ : pz_ZS A s s.heap) (hCN : pz_CN s) (hK : va_K (dC, dI) vwCl [(cJ, .long), (cD, .object "ParityArray$Disk"), (cB, .byte)] s) {t : Nat} (ht5 : 5 * t + 5 ≤ L) {ls : Array Slot} {H : Heap} {locs : List Loc} {dk : Nat → pz_Dk} {su : pz_Su} {bl pt py ov : Nat → Int64} {f : Nat → Int32} {x : pz_Mu} {th : Nat} (hl : lv_has ls 8 [(4, .int (nI (5 * t))), (3, .ref o), (2, .ref h0), (1, .ref (pz_ax a)), (0, .ref b)]) (hP : va_P (dC, dI) vwCl (pz_WW a cJ cD dk su bl pt py o ov h0 aB cB f x th) H) (hD : va_D A (pz_WW a cJ cD dk su bl pt py o ov h0 aB cB f x th)) (hS : va_S A s.heap H locs) (hI : pz_Inv dk su x) (hBy : pz_By f (pz_mM x)) (hth : th < 10) (ih : ∀ (ls : Array Slot) (H : Heap) (locs : List Loc), (∃ (dk : Nat → pz_Dk) (su : pz_Su) (bl pt py ov : Nat → Int64) (f : Nat → Int32) (x : pz_Mu) (th : Nat), lv_has ls 8 [(4, .int (nI (5 * (t + 1)))), (3, .ref o), (2, .ref h0), (1, .ref (pz_ax a)), (0, .ref b)] ∧ va_P (dC, dI) vwCl (pz_WW a cJ cD dk su bl pt py o ov h0 aB cB f x th) H ∧ va_D A (pz_WW a cJ cD dk su bl pt py o ov h0 aB cB f x th) ∧ va_S A s.heap H locs ∧ pz_Inv dk su x ∧ pz_By f (pz_mM x) ∧ th < 10) → W p l e room_1 s m #[Value.ref b] below meth c H locs (24 + (t + 1)) (88980 + 6 * (t + 1)) (lw_Z below #[Value.ref b] s) (F0 m 23 ls [])) : W p l e room_1 s m #[Value.ref b] below meth c H locs (24 + t) (88980 + 6 * t) (lw_Z below #[Value.ref b] s) (F0 m 266 ls []) := by
  have hA : ∀ q : Nat, s.heap.size ≤ q → A q := fun q h => by rw [← hAe]; exact h
  have hbA : ¬ A b := by rw [← hAe]; exact Nat.not_le.mpr hbl
  obtain ⟨hm1, hm2, hm3, hm4, hm5, hm6⟩ := hI.m
  refine lv_aload_n hx hb dXL_law_266 rfl (lv_at hl 3 rfl) ?_
  refine lv_aload_n hx hb dXL_law_267 rfl (lv_at hl 4 rfl) ?_
  refine lv_iload hx hb dXL_law_268 (lv_at hl 0 rfl) ?_
  refine lv_iconst (v := nI 1) hx hb dXL_law_270 (by decide) ?_
  refine lv_iadd hx hb dXL_law_271 ?_
  refine lv_topi (nm_r (nI_add (5 * t) 1) ?_)
  refine va_sld hx hb hX hbl hbA hS (vp_in_nI (show (5 * t) + 1 < L by omega) (by omega)) dXL_law_272 ?_
  refine lv_topi (nm_r (congrArg xs (nI_clamp (by omega))) ?_)
  have hPc := pz_G_P hP
  have hDc := pz_G_D hD
  have hFc := pz_G_F hD hS hA
  have hZc := (hZ.kept hS.2.1).narrow hFc
  refine va_calli (vx_runSW (As := [.ref (pz_ax a), .int (xs ((5 * t) + 1))]) (rest := []) ⟨hx, hb, hml, hown, hts⟩ (c_XL_die l hl0 dC dI _ a cJ cD dk su bl pt py o ov sa x (xs (5 * t + 1)) hI) (vx_cwSW 2 hts (pz_gc (List.mem_filter.mp tw_277).1 rfl (pz_gc (List.mem_filter.mp tw_278).1 rfl (pz_gc (List.mem_filter.mp tw_0).1 rfl (pz_gl tcXL_die)))) rfl rfl rfl (by decide +kernel) ⟨Nat.le_of_ble_eq_true rfl, Nat.le_of_ble_eq_true rfl⟩) (pz_preSx hPc (hK.sub [0, 1] rfl) hDc hNW hSR hZc hCN) rfl rfl hl.1 rfl (lv_room (Nat.le_of_ble_eq_true rfl)) dXL_law_273 ⟨(show 24 + t + 1 ≤ 601024 by omega), (show 88980 + 6 * t + 6 ≤ 7293033 by omega)⟩) hS (fun q _ h => hFc q h) hFc (fun r u t9 H1 locs ht hvm hw hB hz hk1 hS => ?_)
  obtain ⟨⟨dk1, su1, bl1, pt1, py1⟩, ov1⟩ := u
  obtain ⟨hP1, hK1, hD1⟩ := hB
  rw [ht] at hP1
  dsimp only at hw hP1 hD1
  obtain ⟨rfl, hI1⟩ := hw
  obtain ⟨hP, hD⟩ := pz_G_J hP hD hk1 hFc hP1 hD1
  clear hPc hDc hFc hZc hP1 hD1 hK1 hk1 hz ht hvm
  generalize H1 = H at hP hS ⊢
  refine lv_istore hx hb dXL_law_276 hl (by decide) rfl (fun ls hl => ?_)
  have hl : lv_has ls 8 [(5, .int (nI (pz_gD x (xs (5 * t + 1))).2)), (4, .int (nI (5 * t))), (3, .ref o), (2, .ref h0), (1, .ref (pz_ax a)), (0, .ref b)] := hl
  refine lv_aload_n hx hb dXL_law_278 rfl (lv_at hl 3 rfl) ?_
  refine lv_aload_n hx hb dXL_law_279 rfl (lv_at hl 5 rfl) ?_
  refine lv_iload hx hb dXL_law_280 (lv_at hl 1 rfl) ?_
  refine lv_iconst (v := nI 1) hx hb dXL_law_282 (by decide) ?_
  refine lv_iadd hx hb dXL_law_283 ?_
  refine lv_topi (nm_r (nI_add (5 * t) 1) ?_)
  refine va_sld hx hb hX hbl hbA hS (vp_in_nI (show (5 * t) + 1 < L by omega) (by omega)) dXL_law_284 ?_
  refine lv_topi (nm_r (congrArg xs (nI_clamp (by omega))) ?_)
  have hPc := pz_M_P hP
  have hDc := pz_M_D hD
  have hFc := pz_M_F hD hS hA
  refine va_callv (va_runV (As := [.int (xs ((5 * t) + 1))]) (rest := []) ⟨hx, hb, hml, hown, hts⟩ (c_XM_die l dC dI _ h0 aB cB f x th (xs (5 * t + 1)) hm1 hm2 hm3 hm4 hm5 hth) (cwV 1 hts (pz_gc (List.mem_filter.mp tw_447).1 rfl (pz_gc (List.mem_filter.mp tw_448).1 rfl (pz_gc (List.mem_filter.mp tw_449).1 rfl (pz_gc (List.mem_filter.mp tw_4).1 rfl (pz_gl tcXM_die))))) rfl rfl rfl (by decide +kernel) ⟨Nat.le_of_ble_eq_true rfl, Nat.le_of_ble_eq_true rfl⟩) (pz_preVw (va_recv hK hPc (q0 := 0) rfl rfl) hPc (hK.sub [2] rfl) hDc) rfl rfl hl.1 rfl (lv_room (Nat.le_of_ble_eq_true rfl)) dXL_law_285 ⟨(show 24 + t + 1 + 0 ≤ 601024 by omega), (show 88980 + 6 * t + 6 + 0 ≤ 7293033 by omega)⟩) hS (fun q _ h => hFc q h) hFc (fun u t9 H1 locs ht hvm hw hB hz hk1 hS => ?_)
  obtain ⟨x1, th1, f1⟩ := u
  obtain ⟨hP1, hK1, hD1⟩ := hB
  rw [ht] at hP1
  dsimp only at hw hP1 hD1
  obtain ⟨hg, hf1⟩ := hw; obtain rfl : x1 = (pz_gD x (xs (5 * t + 1))).1 := congrArg Prod.fst hg; obtain rfl : th1 = (pz_gD x (xs (5 * t + 1))).2 := congrArg Prod.snd hg; obtain rfl : f = f1 := Eq.symm hf1
  obtain ⟨hP, hD⟩ := pz_M_J hP hD hk1 hFc hP1 hD1
  clear hPc hDc hFc hP1 hD1 hK1 hk1 hz ht hvm
  generalize H1 = H at hP hS ⊢
  have hcb := pz_gD_c x (xs (5 * t + 1))
  have hBy1 : pz_By f (pz_mM (pz_gD x (xs (5 * t + 1))).1) := by unfold pz_gD; split; exact hBy; split; exact hBy; exact hBy
  refine lv_aload_n hx hb dXL_law_288 rfl (lv_at hl 3 rfl) ?_
  refine va_calli (va_runV (As := []) (rest := []) ⟨hx, hb, hml, hown, hts⟩ (c_XM_thrown l dC dI h0 aB cB f ((pz_gD x (xs (5 * t + 1))).1) ((pz_gD x (xs (5 * t + 1))).2)) (cwV 0 hts (pz_gc (List.mem_filter.mp tw_419).1 rfl (pz_gc (List.mem_filter.mp tw_420).1 rfl (pz_gc (List.mem_filter.mp tw_421).1 rfl (pz_gc (List.mem_filter.mp tw_4).1 rfl (pz_gl tcXM_thrown))))) rfl rfl rfl (by decide +kernel) ⟨Nat.le_of_ble_eq_true rfl, Nat.le_of_ble_eq_true rfl⟩) (pz_preV (va_recv hK (pz_M_P hP) (q0 := 0) rfl rfl) (pz_M_P hP) (hK.sub [2] rfl)) rfl rfl hl.1 rfl (lv_room (Nat.le_of_ble_eq_true rfl)) dXL_law_289 ⟨(show 24 + t + 1 + 0 ≤ 601024 by omega), (show 88980 + 6 * t + 6 + 0 ≤ 7293033 by omega)⟩) hS (fun q _ h => h.elim) (fun q h => h.elim) (fun r u t9 H locs ht hvm hw _ hz hk9 hS => ?_)
  have hP := pz_keep hP hk9
  clear hk9 hz ht hvm
  subst hw
  refine lv_iload hx hb dXL_law_292 (lv_at hl 0 rfl) ?_
  refine lv_icmp_eq (tgt := 299) hx hb dXL_law_294 (by decide) (fun _ => ?_) (fun hc => absurd hc (fun h9 => h9 rfl))
  refine lv_goto (tgt := 590) hx hb dXL_law_299 (by decide) ?_
  refine lv_iinc (k := 1) (v := nI (5 * (t + 1))) hx hb dXL_law_590 hl rfl (show nI (5 * t) + nI 5 = nI (5 * (t + 1)) from by rw [nI_add]; rfl) (by decide) rfl (fun ls hl => ?_)
  have hl : lv_has ls 8 [(4, .int (nI (5 * (t + 1)))), (5, .int (nI (pz_gD x (xs (5 * t + 1))).2)), (3, .ref o), (2, .ref h0), (1, .ref (pz_ax a)), (0, .ref b)] := hl
  refine lv_goto (tgt := 23) hx hb dXL_law_593 (by decide) ?_
  refine W.widen (k := 24 + (t + 1)) (n := 88980 + 6 * (t + 1)) (by omega) (by omega) ?_
  exact ih _ _ _ ⟨_, _, _, _, _, _, _, _, _, lv_sub hl [0, 2, 3, 4, 5] rfl, hP, hD, hS, hI1, hBy1, by omega⟩

set_option maxHeartbeats 4000000 in
set_option maxRecDepth 100000 in
theorem pz_turn_replace {p : Program} {e : Env} {s : State} {m : MethodId} {below : List Frame} {meth : Method} {c : Code} (l : Launch) (hl0 : l.stackTraces = false) {b L : Nat} {xs : Nat → Int32} (hx : p.tables.exec = Jvm.exec) (hb : c.code = code) (hml : c.maxLocals = 8) (hown : s.vm.findClass "ParityArrayLaw" = some m.cls) (hts : ∀ w ∈ lw_tbl, w.before #[Value.ref b] s = true) (hX : va_X b L xs s s.heap) (hbl : b < s.heap.size) (hL : L ≤ 2560) {dC : Nat → ClassId} {dI : Nat → Nat → Nat} {sa : Nat → Nat} {a : pz_Ad} {cJ cD cB : ClassId} {o h0 aB : Nat} {A : Nat → Prop} (hAe : (fun q => s.heap.size ≤ q) = A) (hNW : pz_NW s) (hSR : pz_SR sa s) (hZ : pz_ZS A s s.heap) (hCN : pz_CN s) (hK : va_K (dC, dI) vwCl [(cJ, .long), (cD, .object "ParityArray$Disk"), (cB, .byte)] s) {t : Nat} (ht5 : 5 * t + 5 ≤ L) {ls : Array Slot} {H : Heap} {locs : List Loc} {dk : Nat → pz_Dk} {su : pz_Su} {bl pt py ov : Nat → Int64} {f : Nat → Int32} {x : pz_Mu} {th : Nat} (hl : lv_has ls 8 [(4, .int (nI (5 * t))), (3, .ref o), (2, .ref h0), (1, .ref (pz_ax a)), (0, .ref b)]) (hP : va_P (dC, dI) vwCl (pz_WW a cJ cD dk su bl pt py o ov h0 aB cB f x th) H) (hD : va_D A (pz_WW a cJ cD dk su bl pt py o ov h0 aB cB f x th)) (hS : va_S A s.heap H locs) (hI : pz_Inv dk su x) (hBy : pz_By f (pz_mM x)) (hth : th < 10) (ih : ∀ (ls : Array Slot) (H : Heap) (locs : List Loc), (∃ (dk : Nat → pz_Dk) (su : pz_Su) (bl pt py ov : Nat → Int64) (f : Nat → Int32) (x : pz_Mu) (th : Nat), lv_has ls 8 [(4, .int (nI (5 * (t + 1)))), (3, .ref o), (2, .ref h0), (1, .ref (pz_ax a)), (0, .ref b)] ∧ va_P (dC, dI) vwCl (pz_WW a cJ cD dk su bl pt py o ov h0 aB cB f x th) H ∧ va_D A (pz_WW a cJ cD dk su bl pt py o ov h0 aB cB f x th) ∧ va_S A s.heap H locs ∧ pz_Inv dk su x ∧ pz_By f (pz_mM x) ∧ th < 10) → W p l e room_1 s m #[Value.ref b] below meth c H locs (24 + (t + 1)) (88980 + 6 * (t + 1)) (lw_Z below #[Value.ref b] s) (F0 m 23 ls [])) : W p l e room_1 s m #[Value.ref b] below meth c H locs (24 + t) (88980 + 6 * t) (lw_Z below #[Value.ref b] s) (F0 m 302 ls []) := by
  have hA : ∀ q : Nat, s.heap.size ≤ q → A q := fun q h => by rw [← hAe]; exact h
  have hbA : ¬ A b := by rw [← hAe]; exact Nat.not_le.mpr hbl
  obtain ⟨hm1, hm2, hm3, hm4, hm5, hm6⟩ := hI.m
  refine lv_aload_n hx hb dXL_law_302 rfl (lv_at hl 3 rfl) ?_
  refine lv_aload_n hx hb dXL_law_303 rfl (lv_at hl 1 rfl) ?_
  have hPc := pz_G_P hP
  have hDc := pz_G_D hD
  have hFc := pz_G_F hD hS hA
  have hZc := (hZ.kept hS.2.1).narrow hFc
  refine va_calli (vx_runSW (As := [.ref (pz_ax a), .ref o]) (rest := []) ⟨hx, hb, hml, hown, hts⟩ (c_XL_replace l hl0 dC dI _ a cJ cD dk su bl pt py o ov sa x hI) (vx_cwSW 2 hts (pz_gc (List.mem_filter.mp tw_301).1 rfl (pz_gc (List.mem_filter.mp tw_302).1 rfl (pz_gc (List.mem_filter.mp tw_0).1 rfl (pz_gl tcXL_replace)))) rfl rfl rfl (by decide +kernel) ⟨Nat.le_of_ble_eq_true rfl, Nat.le_of_ble_eq_true rfl⟩) (pz_preSx hPc (hK.sub [0, 1] rfl) hDc hNW hSR hZc hCN) rfl rfl hl.1 rfl (lv_room (Nat.le_of_ble_eq_true rfl)) dXL_law_304 ⟨(show 24 + t + 1 ≤ 601024 by omega), (show 88980 + 6 * t + 6 ≤ 7293033 by omega)⟩) hS (fun q _ h => hFc q h) hFc (fun r u t9 H1 locs ht hvm hw hB hz hk1 hS => ?_)
  obtain ⟨⟨dk1, su1, bl1, pt1, py1⟩, ov1⟩ := u
  obtain ⟨hP1, hK1, hD1⟩ := hB
  rw [ht] at hP1
  dsimp only at hw hP1 hD1
  obtain ⟨rfl, hans, hI1⟩ := hw
  obtain ⟨hP, hD⟩ := pz_G_J hP hD hk1 hFc hP1 hD1
  clear hPc hDc hFc hZc hP1 hD1 hK1 hk1 hz ht hvm
  generalize H1 = H at hP hS ⊢
  refine lv_istore hx hb dXL_law_307 hl (by decide) rfl (fun ls hl => ?_)
  have hl : lv_has ls 8 [(5, .int (nI (pz_gR x).2.2)), (4, .int (nI (5 * t))), (3, .ref o), (2, .ref h0), (1, .ref (pz_ax a)), (0, .ref b)] := hl
  refine lv_aload_n hx hb dXL_law_309 rfl (lv_at hl 3 rfl) ?_
  have hPc := pz_M_P hP
  have hDc := pz_M_D hD
  have hFc := pz_M_F hD hS hA
  refine va_calli (va_runV (As := []) (rest := []) ⟨hx, hb, hml, hown, hts⟩ (c_XM_replace l dC dI _ h0 aB cB f x th hm1 hm2 hm3 hm4 hm5 hth) (cwV 0 hts (pz_gc (List.mem_filter.mp tw_451).1 rfl (pz_gc (List.mem_filter.mp tw_452).1 rfl (pz_gc (List.mem_filter.mp tw_453).1 rfl (pz_gc (List.mem_filter.mp tw_4).1 rfl (pz_gl tcXM_replace))))) rfl rfl rfl (by decide +kernel) ⟨Nat.le_of_ble_eq_true rfl, Nat.le_of_ble_eq_true rfl⟩) (pz_preVw (va_recv hK hPc (q0 := 0) rfl rfl) hPc (hK.sub [2] rfl) hDc) rfl rfl hl.1 rfl (lv_room (Nat.le_of_ble_eq_true rfl)) dXL_law_310 ⟨(show 24 + t + 1 + 0 ≤ 601024 by omega), (show 88980 + 6 * t + 6 + 0 ≤ 7293033 by omega)⟩) hS (fun q _ h => hFc q h) hFc (fun r u t9 H1 locs ht hvm hw hB hz hk1 hS => ?_)
  obtain ⟨x1, th1, f1⟩ := u
  obtain ⟨hP1, hK1, hD1⟩ := hB
  rw [ht] at hP1
  dsimp only at hw hP1 hD1
  obtain ⟨hg, hf1⟩ := hw; obtain rfl : r = (pz_gR x).1 := congrArg Prod.fst hg; obtain rfl : x1 = (pz_gR x).2.1 := congrArg (fun z => z.2.1) hg; obtain rfl : th1 = (pz_gR x).2.2 := congrArg (fun z => z.2.2) hg; obtain rfl : f = f1 := Eq.symm hf1
  obtain ⟨hP, hD⟩ := pz_M_J hP hD hk1 hFc hP1 hD1
  clear hPc hDc hFc hP1 hD1 hK1 hk1 hz ht hvm
  generalize H1 = H at hP hS ⊢
  have hcb := pz_gR_c x
  have hBy1 : pz_By f (pz_mM (pz_gR x).2.1) := by unfold pz_gR; split; exact hBy; exact hBy
  refine lv_istore hx hb dXL_law_313 hl (by decide) rfl (fun ls hl => ?_)
  have hl : lv_has ls 8 [(6, .int ((pz_gR x).1)), (5, .int (nI (pz_gR x).2.2)), (4, .int (nI (5 * t))), (3, .ref o), (2, .ref h0), (1, .ref (pz_ax a)), (0, .ref b)] := hl
  refine lv_aload_n hx hb dXL_law_315 rfl (lv_at hl 4 rfl) ?_
  refine va_calli (va_runV (As := []) (rest := []) ⟨hx, hb, hml, hown, hts⟩ (c_XM_thrown l dC dI h0 aB cB f ((pz_gR x).2.1) ((pz_gR x).2.2)) (cwV 0 hts (pz_gc (List.mem_filter.mp tw_419).1 rfl (pz_gc (List.mem_filter.mp tw_420).1 rfl (pz_gc (List.mem_filter.mp tw_421).1 rfl (pz_gc (List.mem_filter.mp tw_4).1 rfl (pz_gl tcXM_thrown))))) rfl rfl rfl (by decide +kernel) ⟨Nat.le_of_ble_eq_true rfl, Nat.le_of_ble_eq_true rfl⟩) (pz_preV (va_recv hK (pz_M_P hP) (q0 := 0) rfl rfl) (pz_M_P hP) (hK.sub [2] rfl)) rfl rfl hl.1 rfl (lv_room (Nat.le_of_ble_eq_true rfl)) dXL_law_316 ⟨(show 24 + t + 1 + 0 ≤ 601024 by omega), (show 88980 + 6 * t + 6 + 0 ≤ 7293033 by omega)⟩) hS (fun q _ h => h.elim) (fun q h => h.elim) (fun r u t9 H locs ht hvm hw _ hz hk9 hS => ?_)
  have hP := pz_keep hP hk9
  clear hk9 hz ht hvm
  subst hw
  refine lv_iload hx hb dXL_law_319 (lv_at hl 1 rfl) ?_
  refine lv_icmp_eq (tgt := 326) hx hb dXL_law_321 (by decide) (fun _ => ?_) (fun hc => absurd hc (fun h9 => h9 rfl))
  refine lv_iload hx hb dXL_law_326 (lv_at hl 1 rfl) ?_
  refine lv_if_ne (tgt := 343) hx hb dXL_law_328 (by decide) (fun hc => ?_) (fun hc => ?_)
  · refine lv_goto (tgt := 590) hx hb dXL_law_343 (by decide) ?_
    refine lv_iinc (k := 2) (v := nI (5 * (t + 1))) hx hb dXL_law_590 hl rfl (show nI (5 * t) + nI 5 = nI (5 * (t + 1)) from by rw [nI_add]; rfl) (by decide) rfl (fun ls hl => ?_)
    have hl : lv_has ls 8 [(4, .int (nI (5 * (t + 1)))), (6, .int ((pz_gR x).1)), (5, .int (nI (pz_gR x).2.2)), (3, .ref o), (2, .ref h0), (1, .ref (pz_ax a)), (0, .ref b)] := hl
    refine lv_goto (tgt := 23) hx hb dXL_law_593 (by decide) ?_
    refine W.widen (k := 24 + (t + 1)) (n := 88980 + 6 * (t + 1)) (by omega) (by omega) ?_
    exact ih _ _ _ ⟨_, _, _, _, _, _, _, _, _, lv_sub hl [0, 3, 4, 5, 6] rfl, hP, hD, hS, hI1, hBy1, by omega⟩
  · have hc0 := (nI_eq (a := ((pz_gR x).2.2)) (b := 0) (by omega) (by decide)).mp hc
    refine lv_aload_n hx hb dXL_law_331 rfl (lv_at hl 3 rfl) ?_
    refine lv_iconst (v := nI 0) hx hb dXL_law_332 (by decide) ?_
    refine va_lald hx hb hK hP 21 0 rfl rfl (vp_in_nI (by decide) (by decide)) dXL_law_333 ?_
    refine lv_topl (nm_r (congrArg ov1 (nI_clamp (by decide))) ?_)
    refine lv_iload hx hb dXL_law_334 (lv_at hl 0 rfl) ?_
    refine lv_i2l (v := ((pz_gR x).1).toInt64) hx hb dXL_law_336 rfl ?_
    refine W.lcmp hx hb dXL_law_337 ?_
    refine lv_if_eq (tgt := 343) hx hb dXL_law_338 (by decide) (fun _ => ?_) (fun hc => absurd hc (fun h9 => h9 ((lg_cmp_eq _ _).mpr (hans hc0))))
    refine lv_goto (tgt := 590) hx hb dXL_law_343 (by decide) ?_
    refine lv_iinc (k := 2) (v := nI (5 * (t + 1))) hx hb dXL_law_590 hl rfl (show nI (5 * t) + nI 5 = nI (5 * (t + 1)) from by rw [nI_add]; rfl) (by decide) rfl (fun ls hl => ?_)
    have hl : lv_has ls 8 [(4, .int (nI (5 * (t + 1)))), (6, .int ((pz_gR x).1)), (5, .int (nI (pz_gR x).2.2)), (3, .ref o), (2, .ref h0), (1, .ref (pz_ax a)), (0, .ref b)] := hl
    refine lv_goto (tgt := 23) hx hb dXL_law_593 (by decide) ?_
    refine W.widen (k := 24 + (t + 1)) (n := 88980 + 6 * (t + 1)) (by omega) (by omega) ?_
    exact ih _ _ _ ⟨_, _, _, _, _, _, _, _, _, lv_sub hl [0, 3, 4, 5, 6] rfl, hP, hD, hS, hI1, hBy1, by omega⟩

set_option maxHeartbeats 4000000 in
set_option maxRecDepth 100000 in
theorem pz_turn_rebuild {p : Program} {e : Env} {s : State} {m : MethodId} {below : List Frame} {meth : Method} {c : Code} (l : Launch) (hl0 : l.stackTraces = false) {b L : Nat} {xs : Nat → Int32} (hx : p.tables.exec = Jvm.exec) (hb : c.code = code) (hml : c.maxLocals = 8) (hown : s.vm.findClass "ParityArrayLaw" = some m.cls) (hts : ∀ w ∈ lw_tbl, w.before #[Value.ref b] s = true) (hX : va_X b L xs s s.heap) (hbl : b < s.heap.size) (hL : L ≤ 2560) {dC : Nat → ClassId} {dI : Nat → Nat → Nat} {sa : Nat → Nat} {a : pz_Ad} {cJ cD cB : ClassId} {o h0 aB : Nat} {A : Nat → Prop} (hAe : (fun q => s.heap.size ≤ q) = A) (hNW : pz_NW s) (hSR : pz_SR sa s) (hZ : pz_ZS A s s.heap) (hCN : pz_CN s) (hK : va_K (dC, dI) vwCl [(cJ, .long), (cD, .object "ParityArray$Disk"), (cB, .byte)] s) {t : Nat} (ht5 : 5 * t + 5 ≤ L) {ls : Array Slot} {H : Heap} {locs : List Loc} {dk : Nat → pz_Dk} {su : pz_Su} {bl pt py ov : Nat → Int64} {f : Nat → Int32} {x : pz_Mu} {th : Nat} (hl : lv_has ls 8 [(4, .int (nI (5 * t))), (3, .ref o), (2, .ref h0), (1, .ref (pz_ax a)), (0, .ref b)]) (hP : va_P (dC, dI) vwCl (pz_WW a cJ cD dk su bl pt py o ov h0 aB cB f x th) H) (hD : va_D A (pz_WW a cJ cD dk su bl pt py o ov h0 aB cB f x th)) (hS : va_S A s.heap H locs) (hI : pz_Inv dk su x) (hBy : pz_By f (pz_mM x)) (hth : th < 10) (ih : ∀ (ls : Array Slot) (H : Heap) (locs : List Loc), (∃ (dk : Nat → pz_Dk) (su : pz_Su) (bl pt py ov : Nat → Int64) (f : Nat → Int32) (x : pz_Mu) (th : Nat), lv_has ls 8 [(4, .int (nI (5 * (t + 1)))), (3, .ref o), (2, .ref h0), (1, .ref (pz_ax a)), (0, .ref b)] ∧ va_P (dC, dI) vwCl (pz_WW a cJ cD dk su bl pt py o ov h0 aB cB f x th) H ∧ va_D A (pz_WW a cJ cD dk su bl pt py o ov h0 aB cB f x th) ∧ va_S A s.heap H locs ∧ pz_Inv dk su x ∧ pz_By f (pz_mM x) ∧ th < 10) → W p l e room_1 s m #[Value.ref b] below meth c H locs (24 + (t + 1)) (88980 + 6 * (t + 1)) (lw_Z below #[Value.ref b] s) (F0 m 23 ls [])) : W p l e room_1 s m #[Value.ref b] below meth c H locs (24 + t) (88980 + 6 * t) (lw_Z below #[Value.ref b] s) (F0 m 346 ls []) := by
  have hA : ∀ q : Nat, s.heap.size ≤ q → A q := fun q h => by rw [← hAe]; exact h
  have hbA : ¬ A b := by rw [← hAe]; exact Nat.not_le.mpr hbl
  obtain ⟨hm1, hm2, hm3, hm4, hm5, hm6⟩ := hI.m
  refine lv_aload_n hx hb dXL_law_346 rfl (lv_at hl 3 rfl) ?_
  refine lv_aload_n hx hb dXL_law_347 rfl (lv_at hl 1 rfl) ?_
  have hPc := pz_G_P hP
  have hDc := pz_G_D hD
  have hFc := pz_G_F hD hS hA
  have hZc := (hZ.kept hS.2.1).narrow hFc
  refine va_calli (vx_runSW (As := [.ref (pz_ax a), .ref o]) (rest := []) ⟨hx, hb, hml, hown, hts⟩ (c_XL_rebuild l hl0 dC dI _ a cJ cD dk su bl pt py o ov sa x hI) (vx_cwSW 2 hts (pz_gc (List.mem_filter.mp tw_309).1 rfl (pz_gc (List.mem_filter.mp tw_310).1 rfl (pz_gc (List.mem_filter.mp tw_0).1 rfl (pz_gl tcXL_rebuild)))) rfl rfl rfl (by decide +kernel) ⟨Nat.le_of_ble_eq_true rfl, Nat.le_of_ble_eq_true rfl⟩) (pz_preSx hPc (hK.sub [0, 1] rfl) hDc hNW hSR hZc hCN) rfl rfl hl.1 rfl (lv_room (Nat.le_of_ble_eq_true rfl)) dXL_law_348 ⟨(show 24 + t + 1 ≤ 601024 by omega), (show 88980 + 6 * t + 6 ≤ 7293033 by omega)⟩) hS (fun q _ h => hFc q h) hFc (fun r u t9 H1 locs ht hvm hw hB hz hk1 hS => ?_)
  obtain ⟨⟨dk1, su1, bl1, pt1, py1⟩, ov1⟩ := u
  obtain ⟨hP1, hK1, hD1⟩ := hB
  rw [ht] at hP1
  dsimp only at hw hP1 hD1
  obtain ⟨rfl, hans, hI1⟩ := hw
  obtain ⟨hP, hD⟩ := pz_G_J hP hD hk1 hFc hP1 hD1
  clear hPc hDc hFc hZc hP1 hD1 hK1 hk1 hz ht hvm
  generalize H1 = H at hP hS ⊢
  refine lv_istore hx hb dXL_law_351 hl (by decide) rfl (fun ls hl => ?_)
  have hl : lv_has ls 8 [(5, .int (nI (pz_gB x).2.2)), (4, .int (nI (5 * t))), (3, .ref o), (2, .ref h0), (1, .ref (pz_ax a)), (0, .ref b)] := hl
  refine lv_aload_n hx hb dXL_law_353 rfl (lv_at hl 3 rfl) ?_
  have hPc := pz_M_P hP
  have hDc := pz_M_D hD
  have hFc := pz_M_F hD hS hA
  refine va_calli (va_runV (As := []) (rest := []) ⟨hx, hb, hml, hown, hts⟩ (c_XM_rebuild l dC dI _ h0 aB cB f x th hm1 hm2 hm3 hm4 hm5 hth hm6) (cwV 0 hts (pz_gc (List.mem_filter.mp tw_455).1 rfl (pz_gc (List.mem_filter.mp tw_456).1 rfl (pz_gc (List.mem_filter.mp tw_457).1 rfl (pz_gc (List.mem_filter.mp tw_4).1 rfl (pz_gl tcXM_rebuild))))) rfl rfl rfl (by decide +kernel) ⟨Nat.le_of_ble_eq_true rfl, Nat.le_of_ble_eq_true rfl⟩) (pz_preVw (va_recv hK hPc (q0 := 0) rfl rfl) hPc (hK.sub [2] rfl) hDc) rfl rfl hl.1 rfl (lv_room (Nat.le_of_ble_eq_true rfl)) dXL_law_354 ⟨(show 24 + t + 1 + 0 ≤ 601024 by omega), (show 88980 + 6 * t + 6 + 0 ≤ 7293033 by omega)⟩) hS (fun q _ h => hFc q h) hFc (fun r u t9 H1 locs ht hvm hw hB hz hk1 hS => ?_)
  obtain ⟨x1, th1, f1⟩ := u
  obtain ⟨hP1, hK1, hD1⟩ := hB
  rw [ht] at hP1
  dsimp only at hw hP1 hD1
  obtain ⟨hg, hf1⟩ := hw; obtain rfl : r = (pz_gB x).1 := congrArg Prod.fst hg; obtain rfl : x1 = (pz_gB x).2.1 := congrArg (fun z => z.2.1) hg; obtain rfl : th1 = (pz_gB x).2.2 := congrArg (fun z => z.2.2) hg; obtain rfl : f = f1 := Eq.symm hf1
  obtain ⟨hP, hD⟩ := pz_M_J hP hD hk1 hFc hP1 hD1
  clear hPc hDc hFc hP1 hD1 hK1 hk1 hz ht hvm
  generalize H1 = H at hP hS ⊢
  have hcb := pz_gB_c x
  have hBy1 : pz_By f (pz_mM (pz_gB x).2.1) := by unfold pz_gB pz_mreb; split; exact hBy; split; exact hBy; exact hBy
  refine lv_istore hx hb dXL_law_357 hl (by decide) rfl (fun ls hl => ?_)
  have hl : lv_has ls 8 [(6, .int ((pz_gB x).1)), (5, .int (nI (pz_gB x).2.2)), (4, .int (nI (5 * t))), (3, .ref o), (2, .ref h0), (1, .ref (pz_ax a)), (0, .ref b)] := hl
  refine lv_aload_n hx hb dXL_law_359 rfl (lv_at hl 4 rfl) ?_
  refine va_calli (va_runV (As := []) (rest := []) ⟨hx, hb, hml, hown, hts⟩ (c_XM_thrown l dC dI h0 aB cB f ((pz_gB x).2.1) ((pz_gB x).2.2)) (cwV 0 hts (pz_gc (List.mem_filter.mp tw_419).1 rfl (pz_gc (List.mem_filter.mp tw_420).1 rfl (pz_gc (List.mem_filter.mp tw_421).1 rfl (pz_gc (List.mem_filter.mp tw_4).1 rfl (pz_gl tcXM_thrown))))) rfl rfl rfl (by decide +kernel) ⟨Nat.le_of_ble_eq_true rfl, Nat.le_of_ble_eq_true rfl⟩) (pz_preV (va_recv hK (pz_M_P hP) (q0 := 0) rfl rfl) (pz_M_P hP) (hK.sub [2] rfl)) rfl rfl hl.1 rfl (lv_room (Nat.le_of_ble_eq_true rfl)) dXL_law_360 ⟨(show 24 + t + 1 + 0 ≤ 601024 by omega), (show 88980 + 6 * t + 6 + 0 ≤ 7293033 by omega)⟩) hS (fun q _ h => h.elim) (fun q h => h.elim) (fun r u t9 H locs ht hvm hw _ hz hk9 hS => ?_)
  have hP := pz_keep hP hk9
  clear hk9 hz ht hvm
  subst hw
  refine lv_iload hx hb dXL_law_363 (lv_at hl 1 rfl) ?_
  refine lv_icmp_eq (tgt := 370) hx hb dXL_law_365 (by decide) (fun _ => ?_) (fun hc => absurd hc (fun h9 => h9 rfl))
  refine lv_iload hx hb dXL_law_370 (lv_at hl 1 rfl) ?_
  refine lv_if_ne (tgt := 387) hx hb dXL_law_372 (by decide) (fun hc => ?_) (fun hc => ?_)
  · refine lv_goto (tgt := 590) hx hb dXL_law_387 (by decide) ?_
    refine lv_iinc (k := 2) (v := nI (5 * (t + 1))) hx hb dXL_law_590 hl rfl (show nI (5 * t) + nI 5 = nI (5 * (t + 1)) from by rw [nI_add]; rfl) (by decide) rfl (fun ls hl => ?_)
    have hl : lv_has ls 8 [(4, .int (nI (5 * (t + 1)))), (6, .int ((pz_gB x).1)), (5, .int (nI (pz_gB x).2.2)), (3, .ref o), (2, .ref h0), (1, .ref (pz_ax a)), (0, .ref b)] := hl
    refine lv_goto (tgt := 23) hx hb dXL_law_593 (by decide) ?_
    refine W.widen (k := 24 + (t + 1)) (n := 88980 + 6 * (t + 1)) (by omega) (by omega) ?_
    exact ih _ _ _ ⟨_, _, _, _, _, _, _, _, _, lv_sub hl [0, 3, 4, 5, 6] rfl, hP, hD, hS, hI1, hBy1, by omega⟩
  · have hc0 := (nI_eq (a := ((pz_gB x).2.2)) (b := 0) (by omega) (by decide)).mp hc
    refine lv_aload_n hx hb dXL_law_375 rfl (lv_at hl 3 rfl) ?_
    refine lv_iconst (v := nI 0) hx hb dXL_law_376 (by decide) ?_
    refine va_lald hx hb hK hP 21 0 rfl rfl (vp_in_nI (by decide) (by decide)) dXL_law_377 ?_
    refine lv_topl (nm_r (congrArg ov1 (nI_clamp (by decide))) ?_)
    refine lv_iload hx hb dXL_law_378 (lv_at hl 0 rfl) ?_
    refine lv_i2l (v := ((pz_gB x).1).toInt64) hx hb dXL_law_380 rfl ?_
    refine W.lcmp hx hb dXL_law_381 ?_
    refine lv_if_eq (tgt := 387) hx hb dXL_law_382 (by decide) (fun _ => ?_) (fun hc => absurd hc (fun h9 => h9 ((lg_cmp_eq _ _).mpr (hans hc0))))
    refine lv_goto (tgt := 590) hx hb dXL_law_387 (by decide) ?_
    refine lv_iinc (k := 2) (v := nI (5 * (t + 1))) hx hb dXL_law_590 hl rfl (show nI (5 * t) + nI 5 = nI (5 * (t + 1)) from by rw [nI_add]; rfl) (by decide) rfl (fun ls hl => ?_)
    have hl : lv_has ls 8 [(4, .int (nI (5 * (t + 1)))), (6, .int ((pz_gB x).1)), (5, .int (nI (pz_gB x).2.2)), (3, .ref o), (2, .ref h0), (1, .ref (pz_ax a)), (0, .ref b)] := hl
    refine lv_goto (tgt := 23) hx hb dXL_law_593 (by decide) ?_
    refine W.widen (k := 24 + (t + 1)) (n := 88980 + 6 * (t + 1)) (by omega) (by omega) ?_
    exact ih _ _ _ ⟨_, _, _, _, _, _, _, _, _, lv_sub hl [0, 3, 4, 5, 6] rfl, hP, hD, hS, hI1, hBy1, by omega⟩

set_option maxHeartbeats 4000000 in
set_option maxRecDepth 100000 in
theorem pz_turn_power {p : Program} {e : Env} {s : State} {m : MethodId} {below : List Frame} {meth : Method} {c : Code} (l : Launch) (hl0 : l.stackTraces = false) {b L : Nat} {xs : Nat → Int32} (hx : p.tables.exec = Jvm.exec) (hb : c.code = code) (hml : c.maxLocals = 8) (hown : s.vm.findClass "ParityArrayLaw" = some m.cls) (hts : ∀ w ∈ lw_tbl, w.before #[Value.ref b] s = true) (hX : va_X b L xs s s.heap) (hbl : b < s.heap.size) (hL : L ≤ 2560) {dC : Nat → ClassId} {dI : Nat → Nat → Nat} {sa : Nat → Nat} {a : pz_Ad} {cJ cD cB : ClassId} {o h0 aB : Nat} {A : Nat → Prop} (hAe : (fun q => s.heap.size ≤ q) = A) (hNW : pz_NW s) (hSR : pz_SR sa s) (hZ : pz_ZS A s s.heap) (hCN : pz_CN s) (hK : va_K (dC, dI) vwCl [(cJ, .long), (cD, .object "ParityArray$Disk"), (cB, .byte)] s) {t : Nat} (ht5 : 5 * t + 5 ≤ L) {ls : Array Slot} {H : Heap} {locs : List Loc} {dk : Nat → pz_Dk} {su : pz_Su} {bl pt py ov : Nat → Int64} {f : Nat → Int32} {x : pz_Mu} {th : Nat} (hl : lv_has ls 8 [(4, .int (nI (5 * t))), (3, .ref o), (2, .ref h0), (1, .ref (pz_ax a)), (0, .ref b)]) (hP : va_P (dC, dI) vwCl (pz_WW a cJ cD dk su bl pt py o ov h0 aB cB f x th) H) (hD : va_D A (pz_WW a cJ cD dk su bl pt py o ov h0 aB cB f x th)) (hS : va_S A s.heap H locs) (hI : pz_Inv dk su x) (hBy : pz_By f (pz_mM x)) (hth : th < 10) (ih : ∀ (ls : Array Slot) (H : Heap) (locs : List Loc), (∃ (dk : Nat → pz_Dk) (su : pz_Su) (bl pt py ov : Nat → Int64) (f : Nat → Int32) (x : pz_Mu) (th : Nat), lv_has ls 8 [(4, .int (nI (5 * (t + 1)))), (3, .ref o), (2, .ref h0), (1, .ref (pz_ax a)), (0, .ref b)] ∧ va_P (dC, dI) vwCl (pz_WW a cJ cD dk su bl pt py o ov h0 aB cB f x th) H ∧ va_D A (pz_WW a cJ cD dk su bl pt py o ov h0 aB cB f x th) ∧ va_S A s.heap H locs ∧ pz_Inv dk su x ∧ pz_By f (pz_mM x) ∧ th < 10) → W p l e room_1 s m #[Value.ref b] below meth c H locs (24 + (t + 1)) (88980 + 6 * (t + 1)) (lw_Z below #[Value.ref b] s) (F0 m 23 ls [])) : W p l e room_1 s m #[Value.ref b] below meth c H locs (24 + t) (88980 + 6 * t) (lw_Z below #[Value.ref b] s) (F0 m 390 ls []) := by
  have hA : ∀ q : Nat, s.heap.size ≤ q → A q := fun q h => by rw [← hAe]; exact h
  have hbA : ¬ A b := by rw [← hAe]; exact Nat.not_le.mpr hbl
  obtain ⟨hm1, hm2, hm3, hm4, hm5, hm6⟩ := hI.m
  refine lv_aload_n hx hb dXL_law_390 rfl (lv_at hl 3 rfl) ?_
  refine lv_aload_n hx hb dXL_law_391 rfl (lv_at hl 4 rfl) ?_
  refine lv_iload hx hb dXL_law_392 (lv_at hl 0 rfl) ?_
  refine lv_iconst (v := nI 1) hx hb dXL_law_394 (by decide) ?_
  refine lv_iadd hx hb dXL_law_395 ?_
  refine lv_topi (nm_r (nI_add (5 * t) 1) ?_)
  refine va_sld hx hb hX hbl hbA hS (vp_in_nI (show (5 * t) + 1 < L by omega) (by omega)) dXL_law_396 ?_
  refine lv_topi (nm_r (congrArg xs (nI_clamp (by omega))) ?_)
  refine lv_aload_n hx hb dXL_law_397 rfl (lv_at hl 4 rfl) ?_
  refine lv_iload hx hb dXL_law_398 (lv_at hl 0 rfl) ?_
  refine lv_iconst (v := nI 2) hx hb dXL_law_400 (by decide) ?_
  refine lv_iadd hx hb dXL_law_401 ?_
  refine lv_topi (nm_r (nI_add (5 * t) 2) ?_)
  refine va_sld hx hb hX hbl hbA hS (vp_in_nI (show (5 * t) + 2 < L by omega) (by omega)) dXL_law_402 ?_
  refine lv_topi (nm_r (congrArg xs (nI_clamp (by omega))) ?_)
  refine lv_aload_n hx hb dXL_law_403 rfl (lv_at hl 4 rfl) ?_
  refine lv_iload hx hb dXL_law_404 (lv_at hl 0 rfl) ?_
  refine lv_iconst (v := nI 3) hx hb dXL_law_406 (by decide) ?_
  refine lv_iadd hx hb dXL_law_407 ?_
  refine lv_topi (nm_r (nI_add (5 * t) 3) ?_)
  refine va_sld hx hb hX hbl hbA hS (vp_in_nI (show (5 * t) + 3 < L by omega) (by omega)) dXL_law_408 ?_
  refine lv_topi (nm_r (congrArg xs (nI_clamp (by omega))) ?_)
  refine lv_if_eq (tgt := 416) hx hb dXL_law_409 (by decide) (fun hc => ?_) (fun hc => ?_)
  · have hs3 := hc
    refine lv_iconst (v := nI 0) hx hb dXL_law_416 (by decide) ?_
    refine lv_topi (nm_r (show nI 0 = pz_b false from rfl) ?_)
    have hPc := pz_G_P hP
    have hDc := pz_G_D hD
    have hFc := pz_G_F hD hS hA
    have hZc := (hZ.kept hS.2.1).narrow hFc
    refine va_calli (vx_runSW (As := [.ref (pz_ax a), .int (xs ((5 * t) + 1)), .int (xs ((5 * t) + 2)), .int (pz_b false)]) (rest := []) ⟨hx, hb, hml, hown, hts⟩ (c_XL_power l hl0 dC dI _ a cJ cD dk su bl pt py o ov sa x (xs (5 * t + 1)) (xs (5 * t + 2)) false hI) (vx_cwSW 4 hts (pz_gc (List.mem_filter.mp tw_321).1 rfl (pz_gc (List.mem_filter.mp tw_322).1 rfl (pz_gc (List.mem_filter.mp tw_0).1 rfl (pz_gl tcXL_power)))) rfl rfl rfl (by decide +kernel) ⟨Nat.le_of_ble_eq_true rfl, Nat.le_of_ble_eq_true rfl⟩) (pz_preSx hPc (hK.sub [0, 1] rfl) hDc hNW hSR hZc hCN) rfl rfl hl.1 rfl (lv_room (Nat.le_of_ble_eq_true rfl)) dXL_law_417 ⟨(show 24 + t + 1 ≤ 601024 by omega), (show 88980 + 6 * t + 6 ≤ 7293033 by omega)⟩) hS (fun q _ h => hFc q h) hFc (fun r u t9 H1 locs ht hvm hw hB hz hk1 hS => ?_)
    obtain ⟨⟨dk1, su1, bl1, pt1, py1⟩, ov1⟩ := u
    obtain ⟨hP1, hK1, hD1⟩ := hB
    rw [ht] at hP1
    dsimp only at hw hP1 hD1
    obtain ⟨rfl, hI1⟩ := hw
    obtain ⟨hP, hD⟩ := pz_G_J hP hD hk1 hFc hP1 hD1
    clear hPc hDc hFc hZc hP1 hD1 hK1 hk1 hz ht hvm
    generalize H1 = H at hP hS ⊢
    refine lv_istore hx hb dXL_law_420 hl (by decide) rfl (fun ls hl => ?_)
    have hl : lv_has ls 8 [(5, .int (nI (pz_gP x (xs (5 * t + 1)) (xs (5 * t + 2)) false).2)), (4, .int (nI (5 * t))), (3, .ref o), (2, .ref h0), (1, .ref (pz_ax a)), (0, .ref b)] := hl
    refine lv_aload_n hx hb dXL_law_422 rfl (lv_at hl 3 rfl) ?_
    refine lv_aload_n hx hb dXL_law_423 rfl (lv_at hl 5 rfl) ?_
    refine lv_iload hx hb dXL_law_424 (lv_at hl 1 rfl) ?_
    refine lv_iconst (v := nI 1) hx hb dXL_law_426 (by decide) ?_
    refine lv_iadd hx hb dXL_law_427 ?_
    refine lv_topi (nm_r (nI_add (5 * t) 1) ?_)
    refine va_sld hx hb hX hbl hbA hS (vp_in_nI (show (5 * t) + 1 < L by omega) (by omega)) dXL_law_428 ?_
    refine lv_topi (nm_r (congrArg xs (nI_clamp (by omega))) ?_)
    refine lv_aload_n hx hb dXL_law_429 rfl (lv_at hl 5 rfl) ?_
    refine lv_iload hx hb dXL_law_430 (lv_at hl 1 rfl) ?_
    refine lv_iconst (v := nI 2) hx hb dXL_law_432 (by decide) ?_
    refine lv_iadd hx hb dXL_law_433 ?_
    refine lv_topi (nm_r (nI_add (5 * t) 2) ?_)
    refine va_sld hx hb hX hbl hbA hS (vp_in_nI (show (5 * t) + 2 < L by omega) (by omega)) dXL_law_434 ?_
    refine lv_topi (nm_r (congrArg xs (nI_clamp (by omega))) ?_)
    refine lv_aload_n hx hb dXL_law_435 rfl (lv_at hl 5 rfl) ?_
    refine lv_iload hx hb dXL_law_436 (lv_at hl 1 rfl) ?_
    refine lv_iconst (v := nI 3) hx hb dXL_law_438 (by decide) ?_
    refine lv_iadd hx hb dXL_law_439 ?_
    refine lv_topi (nm_r (nI_add (5 * t) 3) ?_)
    refine va_sld hx hb hX hbl hbA hS (vp_in_nI (show (5 * t) + 3 < L by omega) (by omega)) dXL_law_440 ?_
    refine lv_topi (nm_r (congrArg xs (nI_clamp (by omega))) ?_)
    refine lv_if_eq (tgt := 448) hx hb dXL_law_441 (by decide) (fun _ => ?_) (fun hc => absurd hc (fun h9 => h9 hs3))
    refine lv_iconst (v := nI 0) hx hb dXL_law_448 (by decide) ?_
    refine lv_topi (nm_r (show nI 0 = pz_b false from rfl) ?_)
    have hPc := pz_M_P hP
    have hDc := pz_M_D hD
    have hFc := pz_M_F hD hS hA
    refine va_callv (va_runV (As := [.int (xs ((5 * t) + 1)), .int (xs ((5 * t) + 2)), .int (pz_b false)]) (rest := []) ⟨hx, hb, hml, hown, hts⟩ (c_XM_power l dC dI _ h0 aB cB f x th (xs (5 * t + 1)) (xs (5 * t + 2)) false hm1 hm2 hm3 hm4 hm5 hth) (cwV 3 hts (pz_gc (List.mem_filter.mp tw_459).1 rfl (pz_gc (List.mem_filter.mp tw_460).1 rfl (pz_gc (List.mem_filter.mp tw_461).1 rfl (pz_gc (List.mem_filter.mp tw_4).1 rfl (pz_gl tcXM_power))))) rfl rfl rfl (by decide +kernel) ⟨Nat.le_of_ble_eq_true rfl, Nat.le_of_ble_eq_true rfl⟩) (pz_preVw (va_recv hK hPc (q0 := 0) rfl rfl) hPc (hK.sub [2] rfl) hDc) rfl rfl hl.1 rfl (lv_room (Nat.le_of_ble_eq_true rfl)) dXL_law_449 ⟨(show 24 + t + 1 + 0 ≤ 601024 by omega), (show 88980 + 6 * t + 6 + 0 ≤ 7293033 by omega)⟩) hS (fun q _ h => hFc q h) hFc (fun u t9 H1 locs ht hvm hw hB hz hk1 hS => ?_)
    obtain ⟨x1, th1, f1⟩ := u
    obtain ⟨hP1, hK1, hD1⟩ := hB
    rw [ht] at hP1
    dsimp only at hw hP1 hD1
    obtain ⟨hg, hf1⟩ := hw; obtain rfl : x1 = (pz_gP x (xs (5 * t + 1)) (xs (5 * t + 2)) false).1 := congrArg Prod.fst hg; obtain rfl : th1 = (pz_gP x (xs (5 * t + 1)) (xs (5 * t + 2)) false).2 := congrArg Prod.snd hg; obtain rfl : f = f1 := Eq.symm hf1
    obtain ⟨hP, hD⟩ := pz_M_J hP hD hk1 hFc hP1 hD1
    clear hPc hDc hFc hP1 hD1 hK1 hk1 hz ht hvm
    generalize H1 = H at hP hS ⊢
    have hcb := pz_gP_c x (xs (5 * t + 1)) (xs (5 * t + 2)) false
    have hBy1 : pz_By f (pz_mM (pz_gP x (xs (5 * t + 1)) (xs (5 * t + 2)) false).1) := by unfold pz_gP; split; exact hBy; exact hBy
    refine lv_aload_n hx hb dXL_law_452 rfl (lv_at hl 3 rfl) ?_
    refine va_calli (va_runV (As := []) (rest := []) ⟨hx, hb, hml, hown, hts⟩ (c_XM_thrown l dC dI h0 aB cB f ((pz_gP x (xs (5 * t + 1)) (xs (5 * t + 2)) false).1) ((pz_gP x (xs (5 * t + 1)) (xs (5 * t + 2)) false).2)) (cwV 0 hts (pz_gc (List.mem_filter.mp tw_419).1 rfl (pz_gc (List.mem_filter.mp tw_420).1 rfl (pz_gc (List.mem_filter.mp tw_421).1 rfl (pz_gc (List.mem_filter.mp tw_4).1 rfl (pz_gl tcXM_thrown))))) rfl rfl rfl (by decide +kernel) ⟨Nat.le_of_ble_eq_true rfl, Nat.le_of_ble_eq_true rfl⟩) (pz_preV (va_recv hK (pz_M_P hP) (q0 := 0) rfl rfl) (pz_M_P hP) (hK.sub [2] rfl)) rfl rfl hl.1 rfl (lv_room (Nat.le_of_ble_eq_true rfl)) dXL_law_453 ⟨(show 24 + t + 1 + 0 ≤ 601024 by omega), (show 88980 + 6 * t + 6 + 0 ≤ 7293033 by omega)⟩) hS (fun q _ h => h.elim) (fun q h => h.elim) (fun r u t9 H locs ht hvm hw _ hz hk9 hS => ?_)
    have hP := pz_keep hP hk9
    clear hk9 hz ht hvm
    subst hw
    refine lv_iload hx hb dXL_law_456 (lv_at hl 0 rfl) ?_
    refine lv_icmp_eq (tgt := 463) hx hb dXL_law_458 (by decide) (fun _ => ?_) (fun hc => absurd hc (fun h9 => h9 rfl))
    refine lv_goto (tgt := 590) hx hb dXL_law_463 (by decide) ?_
    refine lv_iinc (k := 1) (v := nI (5 * (t + 1))) hx hb dXL_law_590 hl rfl (show nI (5 * t) + nI 5 = nI (5 * (t + 1)) from by rw [nI_add]; rfl) (by decide) rfl (fun ls hl => ?_)
    have hl : lv_has ls 8 [(4, .int (nI (5 * (t + 1)))), (5, .int (nI (pz_gP x (xs (5 * t + 1)) (xs (5 * t + 2)) false).2)), (3, .ref o), (2, .ref h0), (1, .ref (pz_ax a)), (0, .ref b)] := hl
    refine lv_goto (tgt := 23) hx hb dXL_law_593 (by decide) ?_
    refine W.widen (k := 24 + (t + 1)) (n := 88980 + 6 * (t + 1)) (by omega) (by omega) ?_
    exact ih _ _ _ ⟨_, _, _, _, _, _, _, _, _, lv_sub hl [0, 2, 3, 4, 5] rfl, hP, hD, hS, hI1, hBy1, by omega⟩
  · have hs3 := hc
    refine lv_iconst (v := nI 1) hx hb dXL_law_412 (by decide) ?_
    refine lv_goto (tgt := 417) hx hb dXL_law_413 (by decide) ?_
    refine lv_topi (nm_r (show nI 1 = pz_b true from rfl) ?_)
    have hPc := pz_G_P hP
    have hDc := pz_G_D hD
    have hFc := pz_G_F hD hS hA
    have hZc := (hZ.kept hS.2.1).narrow hFc
    refine va_calli (vx_runSW (As := [.ref (pz_ax a), .int (xs ((5 * t) + 1)), .int (xs ((5 * t) + 2)), .int (pz_b true)]) (rest := []) ⟨hx, hb, hml, hown, hts⟩ (c_XL_power l hl0 dC dI _ a cJ cD dk su bl pt py o ov sa x (xs (5 * t + 1)) (xs (5 * t + 2)) true hI) (vx_cwSW 4 hts (pz_gc (List.mem_filter.mp tw_321).1 rfl (pz_gc (List.mem_filter.mp tw_322).1 rfl (pz_gc (List.mem_filter.mp tw_0).1 rfl (pz_gl tcXL_power)))) rfl rfl rfl (by decide +kernel) ⟨Nat.le_of_ble_eq_true rfl, Nat.le_of_ble_eq_true rfl⟩) (pz_preSx hPc (hK.sub [0, 1] rfl) hDc hNW hSR hZc hCN) rfl rfl hl.1 rfl (lv_room (Nat.le_of_ble_eq_true rfl)) dXL_law_417 ⟨(show 24 + t + 1 ≤ 601024 by omega), (show 88980 + 6 * t + 6 ≤ 7293033 by omega)⟩) hS (fun q _ h => hFc q h) hFc (fun r u t9 H1 locs ht hvm hw hB hz hk1 hS => ?_)
    obtain ⟨⟨dk1, su1, bl1, pt1, py1⟩, ov1⟩ := u
    obtain ⟨hP1, hK1, hD1⟩ := hB
    rw [ht] at hP1
    dsimp only at hw hP1 hD1
    obtain ⟨rfl, hI1⟩ := hw
    obtain ⟨hP, hD⟩ := pz_G_J hP hD hk1 hFc hP1 hD1
    clear hPc hDc hFc hZc hP1 hD1 hK1 hk1 hz ht hvm
    generalize H1 = H at hP hS ⊢
    refine lv_istore hx hb dXL_law_420 hl (by decide) rfl (fun ls hl => ?_)
    have hl : lv_has ls 8 [(5, .int (nI (pz_gP x (xs (5 * t + 1)) (xs (5 * t + 2)) true).2)), (4, .int (nI (5 * t))), (3, .ref o), (2, .ref h0), (1, .ref (pz_ax a)), (0, .ref b)] := hl
    refine lv_aload_n hx hb dXL_law_422 rfl (lv_at hl 3 rfl) ?_
    refine lv_aload_n hx hb dXL_law_423 rfl (lv_at hl 5 rfl) ?_
    refine lv_iload hx hb dXL_law_424 (lv_at hl 1 rfl) ?_
    refine lv_iconst (v := nI 1) hx hb dXL_law_426 (by decide) ?_
    refine lv_iadd hx hb dXL_law_427 ?_
    refine lv_topi (nm_r (nI_add (5 * t) 1) ?_)
    refine va_sld hx hb hX hbl hbA hS (vp_in_nI (show (5 * t) + 1 < L by omega) (by omega)) dXL_law_428 ?_
    refine lv_topi (nm_r (congrArg xs (nI_clamp (by omega))) ?_)
    refine lv_aload_n hx hb dXL_law_429 rfl (lv_at hl 5 rfl) ?_
    refine lv_iload hx hb dXL_law_430 (lv_at hl 1 rfl) ?_
    refine lv_iconst (v := nI 2) hx hb dXL_law_432 (by decide) ?_
    refine lv_iadd hx hb dXL_law_433 ?_
    refine lv_topi (nm_r (nI_add (5 * t) 2) ?_)
    refine va_sld hx hb hX hbl hbA hS (vp_in_nI (show (5 * t) + 2 < L by omega) (by omega)) dXL_law_434 ?_
    refine lv_topi (nm_r (congrArg xs (nI_clamp (by omega))) ?_)
    refine lv_aload_n hx hb dXL_law_435 rfl (lv_at hl 5 rfl) ?_
    refine lv_iload hx hb dXL_law_436 (lv_at hl 1 rfl) ?_
    refine lv_iconst (v := nI 3) hx hb dXL_law_438 (by decide) ?_
    refine lv_iadd hx hb dXL_law_439 ?_
    refine lv_topi (nm_r (nI_add (5 * t) 3) ?_)
    refine va_sld hx hb hX hbl hbA hS (vp_in_nI (show (5 * t) + 3 < L by omega) (by omega)) dXL_law_440 ?_
    refine lv_topi (nm_r (congrArg xs (nI_clamp (by omega))) ?_)
    refine lv_if_eq (tgt := 448) hx hb dXL_law_441 (by decide) (fun hc => absurd hc (hs3)) (fun _ => ?_)
    refine lv_iconst (v := nI 1) hx hb dXL_law_444 (by decide) ?_
    refine lv_goto (tgt := 449) hx hb dXL_law_445 (by decide) ?_
    refine lv_topi (nm_r (show nI 1 = pz_b true from rfl) ?_)
    have hPc := pz_M_P hP
    have hDc := pz_M_D hD
    have hFc := pz_M_F hD hS hA
    refine va_callv (va_runV (As := [.int (xs ((5 * t) + 1)), .int (xs ((5 * t) + 2)), .int (pz_b true)]) (rest := []) ⟨hx, hb, hml, hown, hts⟩ (c_XM_power l dC dI _ h0 aB cB f x th (xs (5 * t + 1)) (xs (5 * t + 2)) true hm1 hm2 hm3 hm4 hm5 hth) (cwV 3 hts (pz_gc (List.mem_filter.mp tw_459).1 rfl (pz_gc (List.mem_filter.mp tw_460).1 rfl (pz_gc (List.mem_filter.mp tw_461).1 rfl (pz_gc (List.mem_filter.mp tw_4).1 rfl (pz_gl tcXM_power))))) rfl rfl rfl (by decide +kernel) ⟨Nat.le_of_ble_eq_true rfl, Nat.le_of_ble_eq_true rfl⟩) (pz_preVw (va_recv hK hPc (q0 := 0) rfl rfl) hPc (hK.sub [2] rfl) hDc) rfl rfl hl.1 rfl (lv_room (Nat.le_of_ble_eq_true rfl)) dXL_law_449 ⟨(show 24 + t + 1 + 0 ≤ 601024 by omega), (show 88980 + 6 * t + 6 + 0 ≤ 7293033 by omega)⟩) hS (fun q _ h => hFc q h) hFc (fun u t9 H1 locs ht hvm hw hB hz hk1 hS => ?_)
    obtain ⟨x1, th1, f1⟩ := u
    obtain ⟨hP1, hK1, hD1⟩ := hB
    rw [ht] at hP1
    dsimp only at hw hP1 hD1
    obtain ⟨hg, hf1⟩ := hw; obtain rfl : x1 = (pz_gP x (xs (5 * t + 1)) (xs (5 * t + 2)) true).1 := congrArg Prod.fst hg; obtain rfl : th1 = (pz_gP x (xs (5 * t + 1)) (xs (5 * t + 2)) true).2 := congrArg Prod.snd hg; obtain rfl : f = f1 := Eq.symm hf1
    obtain ⟨hP, hD⟩ := pz_M_J hP hD hk1 hFc hP1 hD1
    clear hPc hDc hFc hP1 hD1 hK1 hk1 hz ht hvm
    generalize H1 = H at hP hS ⊢
    have hcb := pz_gP_c x (xs (5 * t + 1)) (xs (5 * t + 2)) true
    have hBy1 : pz_By f (pz_mM (pz_gP x (xs (5 * t + 1)) (xs (5 * t + 2)) true).1) := by unfold pz_gP; split; exact hBy; exact hBy
    refine lv_aload_n hx hb dXL_law_452 rfl (lv_at hl 3 rfl) ?_
    refine va_calli (va_runV (As := []) (rest := []) ⟨hx, hb, hml, hown, hts⟩ (c_XM_thrown l dC dI h0 aB cB f ((pz_gP x (xs (5 * t + 1)) (xs (5 * t + 2)) true).1) ((pz_gP x (xs (5 * t + 1)) (xs (5 * t + 2)) true).2)) (cwV 0 hts (pz_gc (List.mem_filter.mp tw_419).1 rfl (pz_gc (List.mem_filter.mp tw_420).1 rfl (pz_gc (List.mem_filter.mp tw_421).1 rfl (pz_gc (List.mem_filter.mp tw_4).1 rfl (pz_gl tcXM_thrown))))) rfl rfl rfl (by decide +kernel) ⟨Nat.le_of_ble_eq_true rfl, Nat.le_of_ble_eq_true rfl⟩) (pz_preV (va_recv hK (pz_M_P hP) (q0 := 0) rfl rfl) (pz_M_P hP) (hK.sub [2] rfl)) rfl rfl hl.1 rfl (lv_room (Nat.le_of_ble_eq_true rfl)) dXL_law_453 ⟨(show 24 + t + 1 + 0 ≤ 601024 by omega), (show 88980 + 6 * t + 6 + 0 ≤ 7293033 by omega)⟩) hS (fun q _ h => h.elim) (fun q h => h.elim) (fun r u t9 H locs ht hvm hw _ hz hk9 hS => ?_)
    have hP := pz_keep hP hk9
    clear hk9 hz ht hvm
    subst hw
    refine lv_iload hx hb dXL_law_456 (lv_at hl 0 rfl) ?_
    refine lv_icmp_eq (tgt := 463) hx hb dXL_law_458 (by decide) (fun _ => ?_) (fun hc => absurd hc (fun h9 => h9 rfl))
    refine lv_goto (tgt := 590) hx hb dXL_law_463 (by decide) ?_
    refine lv_iinc (k := 1) (v := nI (5 * (t + 1))) hx hb dXL_law_590 hl rfl (show nI (5 * t) + nI 5 = nI (5 * (t + 1)) from by rw [nI_add]; rfl) (by decide) rfl (fun ls hl => ?_)
    have hl : lv_has ls 8 [(4, .int (nI (5 * (t + 1)))), (5, .int (nI (pz_gP x (xs (5 * t + 1)) (xs (5 * t + 2)) true).2)), (3, .ref o), (2, .ref h0), (1, .ref (pz_ax a)), (0, .ref b)] := hl
    refine lv_goto (tgt := 23) hx hb dXL_law_593 (by decide) ?_
    refine W.widen (k := 24 + (t + 1)) (n := 88980 + 6 * (t + 1)) (by omega) (by omega) ?_
    exact ih _ _ _ ⟨_, _, _, _, _, _, _, _, _, lv_sub hl [0, 2, 3, 4, 5] rfl, hP, hD, hS, hI1, hBy1, by omega⟩

set_option maxHeartbeats 4000000 in
set_option maxRecDepth 100000 in
theorem pz_turn_recover {p : Program} {e : Env} {s : State} {m : MethodId} {below : List Frame} {meth : Method} {c : Code} (l : Launch) (hl0 : l.stackTraces = false) {b L : Nat} {xs : Nat → Int32} (hx : p.tables.exec = Jvm.exec) (hb : c.code = code) (hml : c.maxLocals = 8) (hown : s.vm.findClass "ParityArrayLaw" = some m.cls) (hts : ∀ w ∈ lw_tbl, w.before #[Value.ref b] s = true) (hX : va_X b L xs s s.heap) (hbl : b < s.heap.size) (hL : L ≤ 2560) {dC : Nat → ClassId} {dI : Nat → Nat → Nat} {sa : Nat → Nat} {a : pz_Ad} {cJ cD cB : ClassId} {o h0 aB : Nat} {A : Nat → Prop} (hAe : (fun q => s.heap.size ≤ q) = A) (hNW : pz_NW s) (hSR : pz_SR sa s) (hZ : pz_ZS A s s.heap) (hCN : pz_CN s) (hK : va_K (dC, dI) vwCl [(cJ, .long), (cD, .object "ParityArray$Disk"), (cB, .byte)] s) {t : Nat} (ht5 : 5 * t + 5 ≤ L) {ls : Array Slot} {H : Heap} {locs : List Loc} {dk : Nat → pz_Dk} {su : pz_Su} {bl pt py ov : Nat → Int64} {f : Nat → Int32} {x : pz_Mu} {th : Nat} (hl : lv_has ls 8 [(4, .int (nI (5 * t))), (3, .ref o), (2, .ref h0), (1, .ref (pz_ax a)), (0, .ref b)]) (hP : va_P (dC, dI) vwCl (pz_WW a cJ cD dk su bl pt py o ov h0 aB cB f x th) H) (hD : va_D A (pz_WW a cJ cD dk su bl pt py o ov h0 aB cB f x th)) (hS : va_S A s.heap H locs) (hI : pz_Inv dk su x) (hBy : pz_By f (pz_mM x)) (hth : th < 10) (ih : ∀ (ls : Array Slot) (H : Heap) (locs : List Loc), (∃ (dk : Nat → pz_Dk) (su : pz_Su) (bl pt py ov : Nat → Int64) (f : Nat → Int32) (x : pz_Mu) (th : Nat), lv_has ls 8 [(4, .int (nI (5 * (t + 1)))), (3, .ref o), (2, .ref h0), (1, .ref (pz_ax a)), (0, .ref b)] ∧ va_P (dC, dI) vwCl (pz_WW a cJ cD dk su bl pt py o ov h0 aB cB f x th) H ∧ va_D A (pz_WW a cJ cD dk su bl pt py o ov h0 aB cB f x th) ∧ va_S A s.heap H locs ∧ pz_Inv dk su x ∧ pz_By f (pz_mM x) ∧ th < 10) → W p l e room_1 s m #[Value.ref b] below meth c H locs (24 + (t + 1)) (88980 + 6 * (t + 1)) (lw_Z below #[Value.ref b] s) (F0 m 23 ls [])) : W p l e room_1 s m #[Value.ref b] below meth c H locs (24 + t) (88980 + 6 * t) (lw_Z below #[Value.ref b] s) (F0 m 466 ls []) := by
  have hA : ∀ q : Nat, s.heap.size ≤ q → A q := fun q h => by rw [← hAe]; exact h
  have hbA : ¬ A b := by rw [← hAe]; exact Nat.not_le.mpr hbl
  obtain ⟨hm1, hm2, hm3, hm4, hm5, hm6⟩ := hI.m
  refine lv_aload_n hx hb dXL_law_466 rfl (lv_at hl 3 rfl) ?_
  have hPc := pz_G_P hP
  have hDc := pz_G_D hD
  have hFc := pz_G_F hD hS hA
  have hZc := (hZ.kept hS.2.1).narrow hFc
  refine va_calli (vx_runSW (As := [.ref (pz_ax a)]) (rest := []) ⟨hx, hb, hml, hown, hts⟩ (c_XL_recover l hl0 dC dI _ a cJ cD dk su bl pt py o ov sa x hI) (vx_cwSW 1 hts (pz_gc (List.mem_filter.mp tw_350).1 rfl (pz_gc (List.mem_filter.mp tw_351).1 rfl (pz_gc (List.mem_filter.mp tw_0).1 rfl (pz_gl tcXL_recover)))) rfl rfl rfl (by decide +kernel) ⟨Nat.le_of_ble_eq_true rfl, Nat.le_of_ble_eq_true rfl⟩) (pz_preSx hPc (hK.sub [0, 1] rfl) hDc hNW hSR hZc hCN) rfl rfl hl.1 rfl (lv_room (Nat.le_of_ble_eq_true rfl)) dXL_law_467 ⟨(show 24 + t + 1 ≤ 601024 by omega), (show 88980 + 6 * t + 6 ≤ 7293033 by omega)⟩) hS (fun q _ h => hFc q h) hFc (fun r u t9 H1 locs ht hvm hw hB hz hk1 hS => ?_)
  obtain ⟨⟨dk1, su1, bl1, pt1, py1⟩, ov1⟩ := u
  obtain ⟨hP1, hK1, hD1⟩ := hB
  rw [ht] at hP1
  dsimp only at hw hP1 hD1
  obtain ⟨rfl, hI1⟩ := hw
  obtain ⟨hP, hD⟩ := pz_G_J hP hD hk1 hFc hP1 hD1
  clear hPc hDc hFc hZc hP1 hD1 hK1 hk1 hz ht hvm
  generalize H1 = H at hP hS ⊢
  refine lv_istore hx hb dXL_law_470 hl (by decide) rfl (fun ls hl => ?_)
  have hl : lv_has ls 8 [(5, .int (nI (if pz_mF x = 2 then 1 else 0))), (4, .int (nI (5 * t))), (3, .ref o), (2, .ref h0), (1, .ref (pz_ax a)), (0, .ref b)] := hl
  refine lv_aload_n hx hb dXL_law_472 rfl (lv_at hl 3 rfl) ?_
  have hPc := pz_M_P hP
  have hDc := pz_M_D hD
  have hFc := pz_M_F hD hS hA
  refine va_callv (va_runV (As := []) (rest := []) ⟨hx, hb, hml, hown, hts⟩ (c_XM_recover l dC dI _ h0 aB cB f x th hm1 hm2 hm3 hm4 hm5 hth) (cwV 0 hts (pz_gc (List.mem_filter.mp tw_463).1 rfl (pz_gc (List.mem_filter.mp tw_464).1 rfl (pz_gc (List.mem_filter.mp tw_465).1 rfl (pz_gc (List.mem_filter.mp tw_4).1 rfl (pz_gl tcXM_recover))))) rfl rfl rfl (by decide +kernel) ⟨Nat.le_of_ble_eq_true rfl, Nat.le_of_ble_eq_true rfl⟩) (pz_preVw (va_recv hK hPc (q0 := 0) rfl rfl) hPc (hK.sub [2] rfl) hDc) rfl rfl hl.1 rfl (lv_room (Nat.le_of_ble_eq_true rfl)) dXL_law_473 ⟨(show 24 + t + 1 + 0 ≤ 601024 by omega), (show 88980 + 6 * t + 6 + 0 ≤ 7293033 by omega)⟩) hS (fun q _ h => hFc q h) hFc (fun u t9 H1 locs ht hvm hw hB hz hk1 hS => ?_)
  obtain ⟨x1, th1, f1⟩ := u
  obtain ⟨hP1, hK1, hD1⟩ := hB
  rw [ht] at hP1
  dsimp only at hw hP1 hD1
  obtain ⟨hg, hf1⟩ := hw; obtain rfl : x1 = pz_mrec x := congrArg Prod.fst hg; obtain rfl : th1 = (if pz_mF x = 2 then 1 else 0) := congrArg Prod.snd hg; obtain rfl : f = f1 := Eq.symm hf1
  obtain ⟨hP, hD⟩ := pz_M_J hP hD hk1 hFc hP1 hD1
  clear hPc hDc hFc hP1 hD1 hK1 hk1 hz ht hvm
  generalize H1 = H at hP hS ⊢
  have hcb : (if pz_mF x = 2 then 1 else 0) ≤ 1 := (by split <;> omega)
  refine lv_aload_n hx hb dXL_law_476 rfl (lv_at hl 3 rfl) ?_
  refine va_calli (va_runV (As := []) (rest := []) ⟨hx, hb, hml, hown, hts⟩ (c_XM_thrown l dC dI h0 aB cB f (pz_mrec x) (if pz_mF x = 2 then 1 else 0)) (cwV 0 hts (pz_gc (List.mem_filter.mp tw_419).1 rfl (pz_gc (List.mem_filter.mp tw_420).1 rfl (pz_gc (List.mem_filter.mp tw_421).1 rfl (pz_gc (List.mem_filter.mp tw_4).1 rfl (pz_gl tcXM_thrown))))) rfl rfl rfl (by decide +kernel) ⟨Nat.le_of_ble_eq_true rfl, Nat.le_of_ble_eq_true rfl⟩) (pz_preV (va_recv hK (pz_M_P hP) (q0 := 0) rfl rfl) (pz_M_P hP) (hK.sub [2] rfl)) rfl rfl hl.1 rfl (lv_room (Nat.le_of_ble_eq_true rfl)) dXL_law_477 ⟨(show 24 + t + 1 + 0 ≤ 601024 by omega), (show 88980 + 6 * t + 6 + 0 ≤ 7293033 by omega)⟩) hS (fun q _ h => h.elim) (fun q h => h.elim) (fun r u t9 H locs ht hvm hw _ hz hk9 hS => ?_)
  have hP := pz_keep hP hk9
  clear hk9 hz ht hvm
  subst hw
  refine lv_iload hx hb dXL_law_480 (lv_at hl 0 rfl) ?_
  refine lv_icmp_eq (tgt := 487) hx hb dXL_law_482 (by decide) (fun _ => ?_) (fun hc => absurd hc (fun h9 => h9 rfl))
  refine lv_goto (tgt := 590) hx hb dXL_law_487 (by decide) ?_
  refine lv_iinc (k := 1) (v := nI (5 * (t + 1))) hx hb dXL_law_590 hl rfl (show nI (5 * t) + nI 5 = nI (5 * (t + 1)) from by rw [nI_add]; rfl) (by decide) rfl (fun ls hl => ?_)
  have hl : lv_has ls 8 [(4, .int (nI (5 * (t + 1)))), (5, .int (nI (if pz_mF x = 2 then 1 else 0))), (3, .ref o), (2, .ref h0), (1, .ref (pz_ax a)), (0, .ref b)] := hl
  refine lv_goto (tgt := 23) hx hb dXL_law_593 (by decide) ?_
  refine W.widen (k := 24 + (t + 1)) (n := 88980 + 6 * (t + 1)) (by omega) (by omega) ?_
  exact ih _ _ _ ⟨_, _, _, _, _, _, _, _, _, lv_sub hl [0, 2, 3, 4, 5] rfl, hP, hD, hS, hI1, hBy, by omega⟩

set_option maxHeartbeats 4000000 in
set_option maxRecDepth 100000 in
theorem pz_turn_told {p : Program} {e : Env} {s : State} {m : MethodId} {below : List Frame} {meth : Method} {c : Code} (l : Launch) (hl0 : l.stackTraces = false) {b L : Nat} {xs : Nat → Int32} (hx : p.tables.exec = Jvm.exec) (hb : c.code = code) (hml : c.maxLocals = 8) (hown : s.vm.findClass "ParityArrayLaw" = some m.cls) (hts : ∀ w ∈ lw_tbl, w.before #[Value.ref b] s = true) (hX : va_X b L xs s s.heap) (hbl : b < s.heap.size) (hL : L ≤ 2560) {dC : Nat → ClassId} {dI : Nat → Nat → Nat} {sa : Nat → Nat} {a : pz_Ad} {cJ cD cB : ClassId} {o h0 aB : Nat} {A : Nat → Prop} (hAe : (fun q => s.heap.size ≤ q) = A) (hNW : pz_NW s) (hSR : pz_SR sa s) (hZ : pz_ZS A s s.heap) (hCN : pz_CN s) (hK : va_K (dC, dI) vwCl [(cJ, .long), (cD, .object "ParityArray$Disk"), (cB, .byte)] s) {t : Nat} (ht5 : 5 * t + 5 ≤ L) {ls : Array Slot} {H : Heap} {locs : List Loc} {dk : Nat → pz_Dk} {su : pz_Su} {bl pt py ov : Nat → Int64} {f : Nat → Int32} {x : pz_Mu} {th : Nat} (hl : lv_has ls 8 [(4, .int (nI (5 * t))), (3, .ref o), (2, .ref h0), (1, .ref (pz_ax a)), (0, .ref b)]) (hP : va_P (dC, dI) vwCl (pz_WW a cJ cD dk su bl pt py o ov h0 aB cB f x th) H) (hD : va_D A (pz_WW a cJ cD dk su bl pt py o ov h0 aB cB f x th)) (hS : va_S A s.heap H locs) (hI : pz_Inv dk su x) (hBy : pz_By f (pz_mM x)) (hth : th < 10) (ih : ∀ (ls : Array Slot) (H : Heap) (locs : List Loc), (∃ (dk : Nat → pz_Dk) (su : pz_Su) (bl pt py ov : Nat → Int64) (f : Nat → Int32) (x : pz_Mu) (th : Nat), lv_has ls 8 [(4, .int (nI (5 * (t + 1)))), (3, .ref o), (2, .ref h0), (1, .ref (pz_ax a)), (0, .ref b)] ∧ va_P (dC, dI) vwCl (pz_WW a cJ cD dk su bl pt py o ov h0 aB cB f x th) H ∧ va_D A (pz_WW a cJ cD dk su bl pt py o ov h0 aB cB f x th) ∧ va_S A s.heap H locs ∧ pz_Inv dk su x ∧ pz_By f (pz_mM x) ∧ th < 10) → W p l e room_1 s m #[Value.ref b] below meth c H locs (24 + (t + 1)) (88980 + 6 * (t + 1)) (lw_Z below #[Value.ref b] s) (F0 m 23 ls [])) : W p l e room_1 s m #[Value.ref b] below meth c H locs (24 + t) (88980 + 6 * t) (lw_Z below #[Value.ref b] s) (F0 m 490 ls []) := by
  have hA : ∀ q : Nat, s.heap.size ≤ q → A q := fun q h => by rw [← hAe]; exact h
  have hbA : ¬ A b := by rw [← hAe]; exact Nat.not_le.mpr hbl
  obtain ⟨hm1, hm2, hm3, hm4, hm5, hm6⟩ := hI.m
  refine lv_aload_n hx hb dXL_law_490 rfl (lv_at hl 3 rfl) ?_
  refine lv_aload_n hx hb dXL_law_491 rfl (lv_at hl 4 rfl) ?_
  refine lv_iload hx hb dXL_law_492 (lv_at hl 0 rfl) ?_
  refine lv_iconst (v := nI 1) hx hb dXL_law_494 (by decide) ?_
  refine lv_iadd hx hb dXL_law_495 ?_
  refine lv_topi (nm_r (nI_add (5 * t) 1) ?_)
  refine va_sld hx hb hX hbl hbA hS (vp_in_nI (show (5 * t) + 1 < L by omega) (by omega)) dXL_law_496 ?_
  refine lv_topi (nm_r (congrArg xs (nI_clamp (by omega))) ?_)
  refine lv_aload_n hx hb dXL_law_497 rfl (lv_at hl 1 rfl) ?_
  have hPc := pz_G_P hP
  have hDc := pz_G_D hD
  have hFc := pz_G_F hD hS hA
  have hZc := (hZ.kept hS.2.1).narrow hFc
  refine va_calli (vx_runSW (As := [.ref (pz_ax a), .int (xs ((5 * t) + 1)), .ref o]) (rest := []) ⟨hx, hb, hml, hown, hts⟩ (c_XL_told l hl0 dC dI _ a cJ cD dk su bl pt py o ov sa x (xs (5 * t + 1)) hI) (vx_cwSW 3 hts (pz_gc (List.mem_filter.mp tw_365).1 rfl (pz_gc (List.mem_filter.mp tw_366).1 rfl (pz_gc (List.mem_filter.mp tw_0).1 rfl (pz_gl tcXL_told)))) rfl rfl rfl (by decide +kernel) ⟨Nat.le_of_ble_eq_true rfl, Nat.le_of_ble_eq_true rfl⟩) (pz_preSx hPc (hK.sub [0, 1] rfl) hDc hNW hSR hZc hCN) rfl rfl hl.1 rfl (lv_room (Nat.le_of_ble_eq_true rfl)) dXL_law_498 ⟨(show 24 + t + 1 ≤ 601024 by omega), (show 88980 + 6 * t + 6 ≤ 7293033 by omega)⟩) hS (fun q _ h => hFc q h) hFc (fun r u t9 H1 locs ht hvm hw hB hz hk1 hS => ?_)
  obtain ⟨⟨dk1, su1, bl1, pt1, py1⟩, ov1⟩ := u
  obtain ⟨hP1, hK1, hD1⟩ := hB
  rw [ht] at hP1
  dsimp only at hw hP1 hD1
  obtain ⟨rfl, hans, hI1⟩ := hw
  obtain ⟨hP, hD⟩ := pz_G_J hP hD hk1 hFc hP1 hD1
  clear hPc hDc hFc hZc hP1 hD1 hK1 hk1 hz ht hvm
  generalize H1 = H at hP hS ⊢
  refine lv_istore hx hb dXL_law_501 hl (by decide) rfl (fun ls hl => ?_)
  have hl : lv_has ls 8 [(5, .int (nI (pz_gT x (xs (5 * t + 1))).2)), (4, .int (nI (5 * t))), (3, .ref o), (2, .ref h0), (1, .ref (pz_ax a)), (0, .ref b)] := hl
  refine lv_aload_n hx hb dXL_law_503 rfl (lv_at hl 3 rfl) ?_
  refine lv_aload_n hx hb dXL_law_504 rfl (lv_at hl 5 rfl) ?_
  refine lv_iload hx hb dXL_law_505 (lv_at hl 1 rfl) ?_
  refine lv_iconst (v := nI 1) hx hb dXL_law_507 (by decide) ?_
  refine lv_iadd hx hb dXL_law_508 ?_
  refine lv_topi (nm_r (nI_add (5 * t) 1) ?_)
  refine va_sld hx hb hX hbl hbA hS (vp_in_nI (show (5 * t) + 1 < L by omega) (by omega)) dXL_law_509 ?_
  refine lv_topi (nm_r (congrArg xs (nI_clamp (by omega))) ?_)
  have hPc := pz_M_P hP
  have hDc := pz_M_D hD
  have hFc := pz_M_F hD hS hA
  refine va_calli (va_runV (As := [.int (xs ((5 * t) + 1))]) (rest := []) ⟨hx, hb, hml, hown, hts⟩ (c_XM_told l dC dI _ h0 aB cB f x th (xs (5 * t + 1)) hm1 hm2 hm3 hm4 hm5 hth) (cwV 1 hts (pz_gc (List.mem_filter.mp tw_467).1 rfl (pz_gc (List.mem_filter.mp tw_468).1 rfl (pz_gc (List.mem_filter.mp tw_469).1 rfl (pz_gc (List.mem_filter.mp tw_4).1 rfl (pz_gl tcXM_told))))) rfl rfl rfl (by decide +kernel) ⟨Nat.le_of_ble_eq_true rfl, Nat.le_of_ble_eq_true rfl⟩) (pz_preVw (va_recv hK hPc (q0 := 0) rfl rfl) hPc (hK.sub [2] rfl) hDc) rfl rfl hl.1 rfl (lv_room (Nat.le_of_ble_eq_true rfl)) dXL_law_510 ⟨(show 24 + t + 1 + 0 ≤ 601024 by omega), (show 88980 + 6 * t + 6 + 0 ≤ 7293033 by omega)⟩) hS (fun q _ h => hFc q h) hFc (fun r u t9 H1 locs ht hvm hw hB hz hk1 hS => ?_)
  obtain ⟨x1, th1, f1⟩ := u
  obtain ⟨hP1, hK1, hD1⟩ := hB
  rw [ht] at hP1
  dsimp only at hw hP1 hD1
  obtain ⟨hg, hx1, hf1⟩ := hw; obtain rfl : r = (pz_gT x (xs (5 * t + 1))).1 := congrArg Prod.fst hg; obtain rfl : th1 = (pz_gT x (xs (5 * t + 1))).2 := congrArg Prod.snd hg; obtain rfl : x = x1 := Eq.symm hx1; obtain rfl : f = f1 := Eq.symm hf1
  obtain ⟨hP, hD⟩ := pz_M_J hP hD hk1 hFc hP1 hD1
  clear hPc hDc hFc hP1 hD1 hK1 hk1 hz ht hvm
  generalize H1 = H at hP hS ⊢
  have hcb := pz_gT_c x (xs (5 * t + 1))
  refine lv_istore hx hb dXL_law_513 hl (by decide) rfl (fun ls hl => ?_)
  have hl : lv_has ls 8 [(6, .int ((pz_gT x (xs (5 * t + 1))).1)), (5, .int (nI (pz_gT x (xs (5 * t + 1))).2)), (4, .int (nI (5 * t))), (3, .ref o), (2, .ref h0), (1, .ref (pz_ax a)), (0, .ref b)] := hl
  refine lv_aload_n hx hb dXL_law_515 rfl (lv_at hl 4 rfl) ?_
  refine va_calli (va_runV (As := []) (rest := []) ⟨hx, hb, hml, hown, hts⟩ (c_XM_thrown l dC dI h0 aB cB f x ((pz_gT x (xs (5 * t + 1))).2)) (cwV 0 hts (pz_gc (List.mem_filter.mp tw_419).1 rfl (pz_gc (List.mem_filter.mp tw_420).1 rfl (pz_gc (List.mem_filter.mp tw_421).1 rfl (pz_gc (List.mem_filter.mp tw_4).1 rfl (pz_gl tcXM_thrown))))) rfl rfl rfl (by decide +kernel) ⟨Nat.le_of_ble_eq_true rfl, Nat.le_of_ble_eq_true rfl⟩) (pz_preV (va_recv hK (pz_M_P hP) (q0 := 0) rfl rfl) (pz_M_P hP) (hK.sub [2] rfl)) rfl rfl hl.1 rfl (lv_room (Nat.le_of_ble_eq_true rfl)) dXL_law_516 ⟨(show 24 + t + 1 + 0 ≤ 601024 by omega), (show 88980 + 6 * t + 6 + 0 ≤ 7293033 by omega)⟩) hS (fun q _ h => h.elim) (fun q h => h.elim) (fun r u t9 H locs ht hvm hw _ hz hk9 hS => ?_)
  have hP := pz_keep hP hk9
  clear hk9 hz ht hvm
  subst hw
  refine lv_iload hx hb dXL_law_519 (lv_at hl 1 rfl) ?_
  refine lv_icmp_eq (tgt := 526) hx hb dXL_law_521 (by decide) (fun _ => ?_) (fun hc => absurd hc (fun h9 => h9 rfl))
  refine lv_iload hx hb dXL_law_526 (lv_at hl 1 rfl) ?_
  refine lv_if_ne (tgt := 543) hx hb dXL_law_528 (by decide) (fun hc => ?_) (fun hc => ?_)
  · refine lv_goto (tgt := 590) hx hb dXL_law_543 (by decide) ?_
    refine lv_iinc (k := 2) (v := nI (5 * (t + 1))) hx hb dXL_law_590 hl rfl (show nI (5 * t) + nI 5 = nI (5 * (t + 1)) from by rw [nI_add]; rfl) (by decide) rfl (fun ls hl => ?_)
    have hl : lv_has ls 8 [(4, .int (nI (5 * (t + 1)))), (6, .int ((pz_gT x (xs (5 * t + 1))).1)), (5, .int (nI (pz_gT x (xs (5 * t + 1))).2)), (3, .ref o), (2, .ref h0), (1, .ref (pz_ax a)), (0, .ref b)] := hl
    refine lv_goto (tgt := 23) hx hb dXL_law_593 (by decide) ?_
    refine W.widen (k := 24 + (t + 1)) (n := 88980 + 6 * (t + 1)) (by omega) (by omega) ?_
    exact ih _ _ _ ⟨_, _, _, _, _, _, _, _, _, lv_sub hl [0, 3, 4, 5, 6] rfl, hP, hD, hS, hI1, hBy, by omega⟩
  · have hc0 := (nI_eq (a := ((pz_gT x (xs (5 * t + 1))).2)) (b := 0) (by omega) (by decide)).mp hc
    refine lv_aload_n hx hb dXL_law_531 rfl (lv_at hl 3 rfl) ?_
    refine lv_iconst (v := nI 0) hx hb dXL_law_532 (by decide) ?_
    refine va_lald hx hb hK hP 21 0 rfl rfl (vp_in_nI (by decide) (by decide)) dXL_law_533 ?_
    refine lv_topl (nm_r (congrArg ov1 (nI_clamp (by decide))) ?_)
    refine lv_iload hx hb dXL_law_534 (lv_at hl 0 rfl) ?_
    refine lv_i2l (v := ((pz_gT x (xs (5 * t + 1))).1).toInt64) hx hb dXL_law_536 rfl ?_
    refine W.lcmp hx hb dXL_law_537 ?_
    refine lv_if_eq (tgt := 543) hx hb dXL_law_538 (by decide) (fun _ => ?_) (fun hc => absurd hc (fun h9 => h9 ((lg_cmp_eq _ _).mpr (hans hc0))))
    refine lv_goto (tgt := 590) hx hb dXL_law_543 (by decide) ?_
    refine lv_iinc (k := 2) (v := nI (5 * (t + 1))) hx hb dXL_law_590 hl rfl (show nI (5 * t) + nI 5 = nI (5 * (t + 1)) from by rw [nI_add]; rfl) (by decide) rfl (fun ls hl => ?_)
    have hl : lv_has ls 8 [(4, .int (nI (5 * (t + 1)))), (6, .int ((pz_gT x (xs (5 * t + 1))).1)), (5, .int (nI (pz_gT x (xs (5 * t + 1))).2)), (3, .ref o), (2, .ref h0), (1, .ref (pz_ax a)), (0, .ref b)] := hl
    refine lv_goto (tgt := 23) hx hb dXL_law_593 (by decide) ?_
    refine W.widen (k := 24 + (t + 1)) (n := 88980 + 6 * (t + 1)) (by omega) (by omega) ?_
    exact ih _ _ _ ⟨_, _, _, _, _, _, _, _, _, lv_sub hl [0, 3, 4, 5, 6] rfl, hP, hD, hS, hI1, hBy, by omega⟩

set_option maxHeartbeats 4000000 in
set_option maxRecDepth 100000 in
theorem pz_turn_check {p : Program} {e : Env} {s : State} {m : MethodId} {below : List Frame} {meth : Method} {c : Code} (l : Launch) (hl0 : l.stackTraces = false) {b L : Nat} {xs : Nat → Int32} (hx : p.tables.exec = Jvm.exec) (hb : c.code = code) (hml : c.maxLocals = 8) (hown : s.vm.findClass "ParityArrayLaw" = some m.cls) (hts : ∀ w ∈ lw_tbl, w.before #[Value.ref b] s = true) (hX : va_X b L xs s s.heap) (hbl : b < s.heap.size) (hL : L ≤ 2560) {dC : Nat → ClassId} {dI : Nat → Nat → Nat} {sa : Nat → Nat} {a : pz_Ad} {cJ cD cB : ClassId} {o h0 aB : Nat} {A : Nat → Prop} (hAe : (fun q => s.heap.size ≤ q) = A) (hNW : pz_NW s) (hSR : pz_SR sa s) (hZ : pz_ZS A s s.heap) (hCN : pz_CN s) (hK : va_K (dC, dI) vwCl [(cJ, .long), (cD, .object "ParityArray$Disk"), (cB, .byte)] s) {t : Nat} (ht5 : 5 * t + 5 ≤ L) {ls : Array Slot} {H : Heap} {locs : List Loc} {dk : Nat → pz_Dk} {su : pz_Su} {bl pt py ov : Nat → Int64} {f : Nat → Int32} {x : pz_Mu} {th : Nat} (hl : lv_has ls 8 [(4, .int (nI (5 * t))), (3, .ref o), (2, .ref h0), (1, .ref (pz_ax a)), (0, .ref b)]) (hP : va_P (dC, dI) vwCl (pz_WW a cJ cD dk su bl pt py o ov h0 aB cB f x th) H) (hD : va_D A (pz_WW a cJ cD dk su bl pt py o ov h0 aB cB f x th)) (hS : va_S A s.heap H locs) (hI : pz_Inv dk su x) (hBy : pz_By f (pz_mM x)) (hth : th < 10) (ih : ∀ (ls : Array Slot) (H : Heap) (locs : List Loc), (∃ (dk : Nat → pz_Dk) (su : pz_Su) (bl pt py ov : Nat → Int64) (f : Nat → Int32) (x : pz_Mu) (th : Nat), lv_has ls 8 [(4, .int (nI (5 * (t + 1)))), (3, .ref o), (2, .ref h0), (1, .ref (pz_ax a)), (0, .ref b)] ∧ va_P (dC, dI) vwCl (pz_WW a cJ cD dk su bl pt py o ov h0 aB cB f x th) H ∧ va_D A (pz_WW a cJ cD dk su bl pt py o ov h0 aB cB f x th) ∧ va_S A s.heap H locs ∧ pz_Inv dk su x ∧ pz_By f (pz_mM x) ∧ th < 10) → W p l e room_1 s m #[Value.ref b] below meth c H locs (24 + (t + 1)) (88980 + 6 * (t + 1)) (lw_Z below #[Value.ref b] s) (F0 m 23 ls [])) : W p l e room_1 s m #[Value.ref b] below meth c H locs (24 + t) (88980 + 6 * t) (lw_Z below #[Value.ref b] s) (F0 m 546 ls []) := by
  have hA : ∀ q : Nat, s.heap.size ≤ q → A q := fun q h => by rw [← hAe]; exact h
  have hbA : ¬ A b := by rw [← hAe]; exact Nat.not_le.mpr hbl
  obtain ⟨hm1, hm2, hm3, hm4, hm5, hm6⟩ := hI.m
  refine lv_aload_n hx hb dXL_law_546 rfl (lv_at hl 3 rfl) ?_
  refine lv_aload_n hx hb dXL_law_547 rfl (lv_at hl 1 rfl) ?_
  have hPc := pz_G_P hP
  have hDc := pz_G_D hD
  have hFc := pz_G_F hD hS hA
  have hZc := (hZ.kept hS.2.1).narrow hFc
  refine va_calli (vx_runSW (As := [.ref (pz_ax a), .ref o]) (rest := []) ⟨hx, hb, hml, hown, hts⟩ (c_XL_check l hl0 dC dI _ a cJ cD dk su bl pt py o ov sa x hI) (vx_cwSW 2 hts (pz_gc (List.mem_filter.mp tw_373).1 rfl (pz_gc (List.mem_filter.mp tw_374).1 rfl (pz_gc (List.mem_filter.mp tw_0).1 rfl (pz_gl tcXL_check)))) rfl rfl rfl (by decide +kernel) ⟨Nat.le_of_ble_eq_true rfl, Nat.le_of_ble_eq_true rfl⟩) (pz_preSx hPc (hK.sub [0, 1] rfl) hDc hNW hSR hZc hCN) rfl rfl hl.1 rfl (lv_room (Nat.le_of_ble_eq_true rfl)) dXL_law_548 ⟨(show 24 + t + 1 ≤ 601024 by omega), (show 88980 + 6 * t + 6 ≤ 7293033 by omega)⟩) hS (fun q _ h => hFc q h) hFc (fun r u t9 H1 locs ht hvm hw hB hz hk1 hS => ?_)
  obtain ⟨⟨dk1, su1, bl1, pt1, py1⟩, ov1⟩ := u
  obtain ⟨hP1, hK1, hD1⟩ := hB
  rw [ht] at hP1
  dsimp only at hw hP1 hD1
  obtain ⟨rfl, hans, hI1⟩ := hw
  obtain ⟨hP, hD⟩ := pz_G_J hP hD hk1 hFc hP1 hD1
  clear hPc hDc hFc hZc hP1 hD1 hK1 hk1 hz ht hvm
  generalize H1 = H at hP hS ⊢
  refine lv_istore hx hb dXL_law_551 hl (by decide) rfl (fun ls hl => ?_)
  have hl : lv_has ls 8 [(5, .int (nI (if pz_mo x = true then 0 else 1))), (4, .int (nI (5 * t))), (3, .ref o), (2, .ref h0), (1, .ref (pz_ax a)), (0, .ref b)] := hl
  refine lv_aload_n hx hb dXL_law_553 rfl (lv_at hl 3 rfl) ?_
  have hPc := pz_M_P hP
  have hDc := pz_M_D hD
  have hFc := pz_M_F hD hS hA
  refine va_calli (va_runV (As := []) (rest := []) ⟨hx, hb, hml, hown, hts⟩ (c_XM_check l dC dI _ h0 aB cB f x th hm1 hm2 hm3 hm4 hm5 hth) (cwV 0 hts (pz_gc (List.mem_filter.mp tw_471).1 rfl (pz_gc (List.mem_filter.mp tw_472).1 rfl (pz_gc (List.mem_filter.mp tw_473).1 rfl (pz_gc (List.mem_filter.mp tw_4).1 rfl (pz_gl tcXM_check))))) rfl rfl rfl (by decide +kernel) ⟨Nat.le_of_ble_eq_true rfl, Nat.le_of_ble_eq_true rfl⟩) (pz_preVw (va_recv hK hPc (q0 := 0) rfl rfl) hPc (hK.sub [2] rfl) hDc) rfl rfl hl.1 rfl (lv_room (Nat.le_of_ble_eq_true rfl)) dXL_law_554 ⟨(show 24 + t + 1 + 0 ≤ 601024 by omega), (show 88980 + 6 * t + 6 + 0 ≤ 7293033 by omega)⟩) hS (fun q _ h => hFc q h) hFc (fun r u t9 H1 locs ht hvm hw hB hz hk1 hS => ?_)
  obtain ⟨x1, th1, f1⟩ := u
  obtain ⟨hP1, hK1, hD1⟩ := hB
  rw [ht] at hP1
  dsimp only at hw hP1 hD1
  obtain ⟨rfl, hg⟩ := hw; obtain rfl : x = x1 := Eq.symm (congrArg Prod.fst hg); obtain rfl : th1 = (if pz_mo x = true then 0 else 1) := congrArg (fun z => z.2.1) hg; obtain rfl : f = f1 := Eq.symm (congrArg (fun z => z.2.2) hg)
  obtain ⟨hP, hD⟩ := pz_M_J hP hD hk1 hFc hP1 hD1
  clear hPc hDc hFc hP1 hD1 hK1 hk1 hz ht hvm
  generalize H1 = H at hP hS ⊢
  have hcb : (if pz_mo x = true then 0 else 1) ≤ 1 := (by split <;> omega)
  refine lv_istore hx hb dXL_law_557 hl (by decide) rfl (fun ls hl => ?_)
  have hl : lv_has ls 8 [(6, .int (nI 0)), (5, .int (nI (if pz_mo x = true then 0 else 1))), (4, .int (nI (5 * t))), (3, .ref o), (2, .ref h0), (1, .ref (pz_ax a)), (0, .ref b)] := hl
  refine lv_aload_n hx hb dXL_law_559 rfl (lv_at hl 4 rfl) ?_
  refine va_calli (va_runV (As := []) (rest := []) ⟨hx, hb, hml, hown, hts⟩ (c_XM_thrown l dC dI h0 aB cB f x (if pz_mo x = true then 0 else 1)) (cwV 0 hts (pz_gc (List.mem_filter.mp tw_419).1 rfl (pz_gc (List.mem_filter.mp tw_420).1 rfl (pz_gc (List.mem_filter.mp tw_421).1 rfl (pz_gc (List.mem_filter.mp tw_4).1 rfl (pz_gl tcXM_thrown))))) rfl rfl rfl (by decide +kernel) ⟨Nat.le_of_ble_eq_true rfl, Nat.le_of_ble_eq_true rfl⟩) (pz_preV (va_recv hK (pz_M_P hP) (q0 := 0) rfl rfl) (pz_M_P hP) (hK.sub [2] rfl)) rfl rfl hl.1 rfl (lv_room (Nat.le_of_ble_eq_true rfl)) dXL_law_560 ⟨(show 24 + t + 1 + 0 ≤ 601024 by omega), (show 88980 + 6 * t + 6 + 0 ≤ 7293033 by omega)⟩) hS (fun q _ h => h.elim) (fun q h => h.elim) (fun r u t9 H locs ht hvm hw _ hz hk9 hS => ?_)
  have hP := pz_keep hP hk9
  clear hk9 hz ht hvm
  subst hw
  refine lv_iload hx hb dXL_law_563 (lv_at hl 1 rfl) ?_
  refine lv_icmp_eq (tgt := 570) hx hb dXL_law_565 (by decide) (fun _ => ?_) (fun hc => absurd hc (fun h9 => h9 rfl))
  refine lv_iload hx hb dXL_law_570 (lv_at hl 1 rfl) ?_
  refine lv_if_ne (tgt := 587) hx hb dXL_law_572 (by decide) (fun hc => ?_) (fun hc => ?_)
  · refine lv_goto (tgt := 590) hx hb dXL_law_587 (by decide) ?_
    refine lv_iinc (k := 2) (v := nI (5 * (t + 1))) hx hb dXL_law_590 hl rfl (show nI (5 * t) + nI 5 = nI (5 * (t + 1)) from by rw [nI_add]; rfl) (by decide) rfl (fun ls hl => ?_)
    have hl : lv_has ls 8 [(4, .int (nI (5 * (t + 1)))), (6, .int (nI 0)), (5, .int (nI (if pz_mo x = true then 0 else 1))), (3, .ref o), (2, .ref h0), (1, .ref (pz_ax a)), (0, .ref b)] := hl
    refine lv_goto (tgt := 23) hx hb dXL_law_593 (by decide) ?_
    refine W.widen (k := 24 + (t + 1)) (n := 88980 + 6 * (t + 1)) (by omega) (by omega) ?_
    exact ih _ _ _ ⟨_, _, _, _, _, _, _, _, _, lv_sub hl [0, 3, 4, 5, 6] rfl, hP, hD, hS, hI1, hBy, by omega⟩
  · have hc0 := (nI_eq (a := (if pz_mo x = true then 0 else 1)) (b := 0) (by omega) (by decide)).mp hc
    refine lv_aload_n hx hb dXL_law_575 rfl (lv_at hl 3 rfl) ?_
    refine lv_iconst (v := nI 0) hx hb dXL_law_576 (by decide) ?_
    refine va_lald hx hb hK hP 21 0 rfl rfl (vp_in_nI (by decide) (by decide)) dXL_law_577 ?_
    refine lv_topl (nm_r (congrArg ov1 (nI_clamp (by decide))) ?_)
    refine lv_iload hx hb dXL_law_578 (lv_at hl 0 rfl) ?_
    refine lv_i2l (v := (nI 0).toInt64) hx hb dXL_law_580 rfl ?_
    refine W.lcmp hx hb dXL_law_581 ?_
    refine lv_if_eq (tgt := 587) hx hb dXL_law_582 (by decide) (fun _ => ?_) (fun hc => absurd hc (fun h9 => h9 ((lg_cmp_eq _ _).mpr (hans hc0))))
    refine lv_goto (tgt := 590) hx hb dXL_law_587 (by decide) ?_
    refine lv_iinc (k := 2) (v := nI (5 * (t + 1))) hx hb dXL_law_590 hl rfl (show nI (5 * t) + nI 5 = nI (5 * (t + 1)) from by rw [nI_add]; rfl) (by decide) rfl (fun ls hl => ?_)
    have hl : lv_has ls 8 [(4, .int (nI (5 * (t + 1)))), (6, .int (nI 0)), (5, .int (nI (if pz_mo x = true then 0 else 1))), (3, .ref o), (2, .ref h0), (1, .ref (pz_ax a)), (0, .ref b)] := hl
    refine lv_goto (tgt := 23) hx hb dXL_law_593 (by decide) ?_
    refine W.widen (k := 24 + (t + 1)) (n := 88980 + 6 * (t + 1)) (by omega) (by omega) ?_
    exact ih _ _ _ ⟨_, _, _, _, _, _, _, _, _, lv_sub hl [0, 3, 4, 5, 6] rfl, hP, hD, hS, hI1, hBy, by omega⟩

