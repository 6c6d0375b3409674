/-! ParityArray: what writes (laid by a program) -/
theorem pz_seq {p : Program} {l : Launch} {e : Env} {R : Room} {s : State} {m : MethodId} {args : Array Value} {below : List Frame} {meth : Method} {c : Code} {H : Heap} {locs : List Loc} {cells slots : Nat} {Q : State → Prop} {g : JFrame} (pc : Nat) (st : List Value) (c2 s2 : Nat) (I : Array Slot → Heap → List Loc → Prop)
    (h1 : (∀ (ls : Array Slot) (H : Heap) (locs : List Loc), I ls H locs → W p l e R s m args below meth c H locs c2 s2 Q (F0 m pc ls st)) → W p l e R s m args below meth c H locs cells slots Q g)
    (h2 : ∀ (ls : Array Slot) (H : Heap) (locs : List Loc), I ls H locs → W p l e R s m args below meth c H locs c2 s2 Q (F0 m pc ls st)) : W p l e R s m args below meth c H locs cells slots Q g := h1 h2
theorem pz_let_wc (k : Nat) (x : pz_Su) : pz_wc (pz_let k x).2 ≤ pz_wc x + 1 := by
  unfold pz_let
  split
  · exact Nat.le_succ _
  · split
    · exact Nat.le_succ _
    · exact Nat.le_refl _
theorem pz_let_le (k : Nat) (x : pz_Su) : (pz_let k x).1 ≤ k := by
  unfold pz_let
  split
  · exact Nat.zero_le _
  · split
    · exact Nat.min_le_right _ _
    · exact Nat.le_refl _
set_option maxHeartbeats 4000000 in
set_option maxRecDepth 100000 in
/-- the three rows that a set writes -/
theorem c_XP_prepareRows (l : Launch) (dC : Nat → ClassId) (dI : Nat → Nat → Nat) (sz : Nat) (a : pz_Ad) (cJ cD : ClassId) (dk : Nat → pz_Dk) (su : pz_Su) (bl pt py : Nat → Int64) (n0 i0 : Nat) (w0 : Int64) (hth : ∀ d, d < 5 → pz_th (dk d) ≤ 150) (hn0 : n0 < 600) (hi0 : i0 < 16) : Met l yXP_prepareRows wsXP_prepareRows ({ frames := 3, cells := 0, slots := 0, locals := 72 }) (va_Pc [.ref (pz_ax a), .int (nI n0), .int (nI i0), .long w0] (fun U => U.heap.size = sz ∧ va_P (dC, dI) vwCl (pz_XW a cJ cD dk su bl pt py) U.heap ∧ va_K (dC, dI) vwCl [(cJ, .long), (cD, .object "ParityArray$Disk")] U ∧ va_D (fun _ => True) (pz_XW a cJ cD dk su bl pt py))) (va_Qv (fun (u : (Nat → Int64) × (Nat → Int64) × (Nat → Int64)) => (∀ j, j < 16 → u.1 j = if j = i0 then w0 else pz_rl dk n0 j) ∧ (∀ j, j < 16 → u.2.1 j = pz_R (dk (n0 / 4 % 5)) (16 * (n0 / 4) + j) ^^^ pz_rl dk n0 j) ∧ ∀ j, j < 16 → u.2.2 j = u.2.1 j ^^^ u.1 j) (fun u t => va_P (dC, dI) vwCl (pz_XW a cJ cD dk su u.1 u.2.1 u.2.2) t.heap ∧ va_K (dC, dI) vwCl [(cJ, .long), (cD, .object "ParityArray$Disk")] t ∧ va_D (va_A (pz_XW a cJ cD dk su bl pt py) sz) (pz_XW a cJ cD dk su u.1 u.2.1 u.2.2)) (va_A (pz_XW a cJ cD dk su bl pt py) sz)) 0 0 (va_A (pz_XW a cJ cD dk su bl pt py) sz) := by
  refine Met.ofW (cc := cXP_prepareRows) (maxL := 8) (ret := none) (by decide) rfl ?_
  intro p e s m args below meth c s₁ B hml hv
  obtain ⟨rfl, hsz, hP, hK, hD0⟩ := hv
  have hx := B.exec
  have hb := B.bytes
  have hr := B.returns
  have hts := atoms_spec (ws := wsXP_prepareRows) B.pre
  have hown : s.vm.findClass "ParityArray" = some m.cls := findClass_of_methodNamed B.named
  have hlocks := B.notSynchronized
  subst hsz
  have hD := hD0.self (sz := s.heap.size)
  generalize hAe : va_A (pz_XW a cJ cD dk su bl pt py) s.heap.size = A at hD ⊢
  have hA : ∀ q : Nat, s.heap.size ≤ q → A q := fun q h => by rw [← hAe]; exact Or.inr h
  have hS : va_S A s.heap s.heap [] := va_S.rf
  have hl := lv_entry ([.ref (pz_ax a), .int (nI n0), .int (nI i0), .long w0]) (n := 8) (Nat.le_of_ble_eq_true rfl)
  rw [lg_entry_eq]
  generalize (lg_sl ([.ref (pz_ax a), .int (nI n0), .int (nI i0), .long w0]) ++ List.replicate (8 - (lg_sl ([.ref (pz_ax a), .int (nI n0), .int (nI i0), .long w0])).length) Slot.unset).toArray = ls at hl ⊢
  have hl : lv_has ls 8 [(0, .ref (pz_ax a)), (1, .int (nI n0)), (2, .int (nI i0)), (3, .long w0)] := hl
  have hP : va_P (dC, dI) vwCl (pz_XW a cJ cD dk su bl pt py) s.heap := hP
  have hD : va_D A (pz_XW a cJ cD dk su bl pt py) := hD
  refine lv_iload_n hx hb dXP_prepareRows_0 rfl (lv_at hl 1 rfl) ?_
  refine va_calli (va_runS (As := [.int (nI n0)]) (rest := []) ⟨hx, hb, hml, hown, hts⟩ (c_XP_stripeOf l n0 hn0) (va_cwS 1 hts (pz_gc (List.mem_cons_of_mem _ tw_198) rfl (pz_gc (List.mem_cons_of_mem _ tw_199) rfl (pz_gc (List.mem_cons_of_mem _ tw_1) rfl (pz_gi tcXP_stripeOf)))) rfl rfl rfl (by decide +kernel) ⟨Nat.le_of_ble_eq_true rfl, Nat.le_of_ble_eq_true rfl⟩) pz_preS0 rfl rfl hl.1 rfl (lv_room (Nat.le_of_ble_eq_true rfl)) dXP_prepareRows_1 ⟨Nat.zero_le _, Nat.zero_le _⟩) hS (fun q _ h => h.elim) (fun q h => h.elim) (fun r u t H locs ht hvm hw _ hz hk9 hS => ?_)
  have hP := pz_keep hP hk9
  clear hk9 hz ht hvm
  subst hw
  refine lv_istore hx hb dXP_prepareRows_4 hl (by decide) rfl (fun ls hl => ?_)
  have hl : lv_has ls 8 [(5, .int (nI (n0 / 4))), (0, .ref (pz_ax a)), (1, .int (nI n0)), (2, .int (nI i0)), (3, .long w0)] := hl
  refine lv_aload_n hx hb dXP_prepareRows_6 rfl (lv_at hl 1 rfl) ?_
  refine va_get (D := (dC, dI)) (ci := 2) (v := .ref (pz_ad a)) (C := "ParityArray") (T := TXP) (N := 5) hx hb hts (fun w h => List.mem_cons_of_mem _ (inXP w h)) hown hK hP 0 rfl rfl 0 (by decide) (hts _ (List.mem_cons_of_mem _ tw_80)) (fun _ h9 => h9) rfl dXP_prepareRows_7 ?_
  refine lv_iload hx hb dXP_prepareRows_10 (lv_at hl 0 rfl) ?_
  refine va_calli (va_runS (As := [.int (nI (n0 / 4))]) (rest := [.ref (pz_ad a)]) ⟨hx, hb, hml, hown, hts⟩ (c_XP_parityDiskOf l (n0 / 4) (by omega)) (va_cwS 1 hts (pz_gc (List.mem_cons_of_mem _ tw_204) rfl (pz_gc (List.mem_cons_of_mem _ tw_205) rfl (pz_gc (List.mem_cons_of_mem _ tw_1) rfl (pz_gi tcXP_parityDiskOf)))) rfl rfl rfl (by decide +kernel) ⟨Nat.le_of_ble_eq_true rfl, Nat.le_of_ble_eq_true rfl⟩) pz_preS0 rfl rfl hl.1 rfl (lv_room (Nat.le_of_ble_eq_true rfl)) dXP_prepareRows_12 ⟨Nat.zero_le _, Nat.zero_le _⟩) hS (fun q _ h => h.elim) (fun q h => h.elim) (fun r u t H locs ht hvm hw _ hz hk9 hS => ?_)
  have hP := pz_keep hP hk9
  clear hk9 hz ht hvm
  subst hw
  refine pz_ald hx hb hK hP 1 rfl (by omega : n0 / 4 % 5 < 5) dXP_prepareRows_15 ?_
  refine lv_astore hx hb dXP_prepareRows_16 hl (by decide) rfl (fun ls hl => ?_)
  have hl : lv_has ls 8 [(6, .ref ((pz_da a (n0 / 4 % 5)).1)), (5, .int (nI (n0 / 4))), (0, .ref (pz_ax a)), (1, .int (nI n0)), (2, .int (nI i0)), (3, .long w0)] := hl
  refine lv_iconst (v := nI 0) hx hb dXP_prepareRows_18 (by decide) ?_
  refine lv_istore hx hb dXP_prepareRows_19 hl (by decide) rfl (fun ls hl => ?_)
  have hl : lv_has ls 8 [(7, .int (nI 0)), (6, .ref ((pz_da a (n0 / 4 % 5)).1)), (5, .int (nI (n0 / 4))), (0, .ref (pz_ax a)), (1, .int (nI n0)), (2, .int (nI i0)), (3, .long w0)] := hl
  refine pz_loop (fun _ => 0) (fun _ => 0) 16 (fun k ls H locs => ∃ bl1 pt1 : Nat → Int64, lv_has ls 8 [(7, .int (nI k)), (6, .ref ((pz_da a (n0 / 4 % 5)).1)), (5, .int (nI (n0 / 4))), (0, .ref (pz_ax a)), (1, .int (nI n0)), (2, .int (nI i0)), (3, .long w0)] ∧ va_P (dC, dI) vwCl (pz_XW a cJ cD dk su bl1 pt1 py) H ∧ va_D A (pz_XW a cJ cD dk su bl1 pt1 py) ∧ va_S A s.heap H locs ∧ (∀ j, j < k → bl1 j = pz_rl dk n0 j ∧ pt1 j = pz_R (dk (n0 / 4 % 5)) (16 * (n0 / 4) + j) ^^^ pz_rl dk n0 j)) ?_ ?_ 16 0 (by omega) _ _ _ ⟨bl, pt, hl, hP, hD, hS, fun j h9 => absurd h9 (Nat.not_lt_zero _)⟩
  · intro k ls H locs hk hI ih
    obtain ⟨bl1, pt1, hl, hP, hD, hS, hq1⟩ := hI
    refine lv_iload hx hb dXP_prepareRows_21 (lv_at hl 0 rfl) ?_
    refine lv_bipush (v := nI 16) hx hb dXP_prepareRows_23 (by decide) ?_
    refine lv_icmp_ge (tgt := 72) hx hb dXP_prepareRows_25 (by decide) (fun hc => absurd hc (nI_ge hk (by decide))) (fun _ => ?_)
    refine lv_aload_n hx hb dXP_prepareRows_28 rfl (lv_at hl 3 rfl) ?_
    refine va_get (D := (dC, dI)) (ci := 2) (v := .ref (pz_ab a)) (C := "ParityArray") (T := TXP) (N := 5) hx hb hts (fun w h => List.mem_cons_of_mem _ (inXP w h)) hown hK hP 0 rfl rfl 2 (by decide) (hts _ (List.mem_cons_of_mem _ tw_82)) (fun _ h9 => h9) rfl dXP_prepareRows_29 ?_
    refine lv_iload hx hb dXP_prepareRows_32 (lv_at hl 0 rfl) ?_
    refine lv_aload_n hx hb dXP_prepareRows_34 rfl (lv_at hl 3 rfl) ?_
    refine lv_iload_n hx hb dXP_prepareRows_35 rfl (lv_at hl 4 rfl) ?_
    refine lv_iload hx hb dXP_prepareRows_36 (lv_at hl 0 rfl) ?_
    refine va_calll (va_runV (As := [.int (nI n0), .int (nI k)]) (rest := [.int (nI k), .ref (pz_ab a)]) ⟨hx, hb, hml, hown, hts⟩ (c_XP_readLong l dC dI a cJ cD dk su bl1 pt1 py n0 k hth hn0 hk) (cwV 2 hts (pz_gc (List.mem_cons_of_mem _ tw_194) rfl (pz_gc (List.mem_cons_of_mem _ tw_196) rfl (pz_gc (List.mem_cons_of_mem _ ts_1) rfl (pz_gc (List.mem_cons_of_mem _ tw_1) rfl (pz_gi tcXP_readLong))))) rfl rfl rfl (by decide +kernel) ⟨Nat.le_of_ble_eq_true rfl, Nat.le_of_ble_eq_true rfl⟩) (pz_preV (va_recv hK hP (q0 := 0) rfl rfl) hP hK) rfl rfl hl.1 rfl (lv_room (Nat.le_of_ble_eq_true rfl)) dXP_prepareRows_38 ⟨Nat.zero_le _, Nat.zero_le _⟩) hS (fun q _ h => h.elim) (fun q h => h.elim) (fun r u t H locs ht hvm hw _ hz hk9 hS => ?_)
    have hP := pz_keep hP hk9
    clear hk9 hz ht hvm
    subst hw
    refine va_last hx hb hK hP hD hS 3 0 rfl rfl (vp_in_nI (by omega) (by decide)) dXP_prepareRows_41 (fun H locs hP hD hS => ?_)
    rw [nI_clamp (show k < 2 ^ 31 by omega)] at hP hD
    have hP : va_P (dC, dI) vwCl (pz_XW a cJ cD dk su (vp_updL bl1 k (pz_rl dk n0 k)) pt1 py) H := hP
    have hD : va_D A (pz_XW a cJ cD dk su (vp_updL bl1 k (pz_rl dk n0 k)) pt1 py) := hD
    refine lv_aload_n hx hb dXP_prepareRows_42 rfl (lv_at hl 3 rfl) ?_
    refine va_get (D := (dC, dI)) (ci := 2) (v := .ref (pz_ap a)) (C := "ParityArray") (T := TXP) (N := 5) hx hb hts (fun w h => List.mem_cons_of_mem _ (inXP w h)) hown hK hP 0 rfl rfl 3 (by decide) (hts _ (List.mem_cons_of_mem _ tw_83)) (fun _ h9 => h9) rfl dXP_prepareRows_43 ?_
    refine lv_iload hx hb dXP_prepareRows_46 (lv_at hl 0 rfl) ?_
    refine lv_aload hx hb dXP_prepareRows_48 (lv_at hl 1 rfl) ?_
    refine lv_iload hx hb dXP_prepareRows_50 (lv_at hl 2 rfl) ?_
    refine lv_iload hx hb dXP_prepareRows_52 (lv_at hl 0 rfl) ?_
    refine va_calll (va_runV (As := [.int (nI (n0 / 4)), .int (nI k)]) (rest := [.int (nI k), .ref (pz_ap a)]) ⟨hx, hb, hml, hown, hts⟩ (c_XD_longAt l dC dI _ _ _ cJ (dk (n0 / 4 % 5)) (n0 / 4) k (by omega) hk) (cwV 2 hts (pz_gc (List.mem_cons_of_mem _ tw_211) rfl (pz_gc (List.mem_cons_of_mem _ tw_212) rfl (pz_gc (List.mem_cons_of_mem _ tw_213) rfl (pz_gc (List.mem_cons_of_mem _ tw_3) rfl (pz_gi tcXD_longAt))))) rfl rfl rfl (by decide +kernel) ⟨Nat.le_of_ble_eq_true rfl, Nat.le_of_ble_eq_true rfl⟩) (pz_preV (va_recv hK (pz_Xd_P (d := (n0 / 4 % 5)) (show n0 / 4 % 5 < 5 by omega) hP) (q0 := 0) rfl rfl) (pz_Xd_P (d := (n0 / 4 % 5)) (show n0 / 4 % 5 < 5 by omega) hP) (hK.sub [0] rfl)) rfl rfl hl.1 rfl (lv_room (Nat.le_of_ble_eq_true rfl)) dXP_prepareRows_54 ⟨Nat.zero_le _, Nat.zero_le _⟩) hS (fun q _ h => h.elim) (fun q h => h.elim) (fun r u t H locs ht hvm hw _ hz hk9 hS => ?_)
    have hP := pz_keep hP hk9
    clear hk9 hz ht hvm
    subst hw
    refine lv_aload_n hx hb dXP_prepareRows_57 rfl (lv_at hl 3 rfl) ?_
    refine va_get (D := (dC, dI)) (ci := 2) (v := .ref (pz_ab a)) (C := "ParityArray") (T := TXP) (N := 5) hx hb hts (fun w h => List.mem_cons_of_mem _ (inXP w h)) hown hK hP 0 rfl rfl 2 (by decide) (hts _ (List.mem_cons_of_mem _ tw_82)) (fun _ h9 => h9) rfl dXP_prepareRows_58 ?_
    refine lv_iload hx hb dXP_prepareRows_61 (lv_at hl 0 rfl) ?_
    refine va_lald hx hb hK hP 3 0 rfl rfl (vp_in_nI (by omega) (by decide)) dXP_prepareRows_63 ?_
    refine lv_topl (nm_r (congrArg (vp_updL bl1 k (pz_rl dk n0 k)) (nI_clamp (by omega))) ?_)
    refine lv_topl (nm_r (pk_uLs) ?_)
    refine lv_lxor hx hb dXP_prepareRows_64 ?_
    refine va_last hx hb hK hP hD hS 4 0 rfl rfl (vp_in_nI (by omega) (by decide)) dXP_prepareRows_65 (fun H locs hP hD hS => ?_)
    rw [nI_clamp (show k < 2 ^ 31 by omega)] at hP hD
    have hP : va_P (dC, dI) vwCl (pz_XW a cJ cD dk su (vp_updL bl1 k (pz_rl dk n0 k)) (vp_updL pt1 k ((pz_R (dk (n0 / 4 % 5)) (16 * (n0 / 4) + k)) ^^^ (pz_rl dk n0 k))) py) H := hP
    have hD : va_D A (pz_XW a cJ cD dk su (vp_updL bl1 k (pz_rl dk n0 k)) (vp_updL pt1 k ((pz_R (dk (n0 / 4 % 5)) (16 * (n0 / 4) + k)) ^^^ (pz_rl dk n0 k))) py) := hD
    refine lv_iinc (k := 0) (v := nI (k + 1)) hx hb dXP_prepareRows_66 hl rfl (by rw [nI_succ]; rfl) (by decide) rfl (fun ls hl => ?_)
    have hl : lv_has ls 8 [(7, .int (nI (k + 1))), (6, .ref ((pz_da a (n0 / 4 % 5)).1)), (5, .int (nI (n0 / 4))), (0, .ref (pz_ax a)), (1, .int (nI n0)), (2, .int (nI i0)), (3, .long w0)] := hl
    refine lv_goto (tgt := 21) hx hb dXP_prepareRows_69 (by decide) ?_
    exact ih _ _ _ ⟨_, _, hl, hP, hD, hS, fun j h9 => by
      by_cases e9 : j = k
      · subst e9; exact ⟨pk_uLs, pk_uLs⟩
      · rw [pk_uLn e9, pk_uLn e9]; exact hq1 j (by omega)⟩
  · intro ls H locs hI
    obtain ⟨bl1, pt1, hl, hP, hD, hS, hq1⟩ := hI
    refine lv_iload hx hb dXP_prepareRows_21 (lv_at hl 0 rfl) ?_
    refine lv_bipush (v := nI 16) hx hb dXP_prepareRows_23 (by decide) ?_
    refine lv_icmp_ge (tgt := 72) hx hb dXP_prepareRows_25 (by decide) (fun _ => ?_) (fun hc => absurd hc (fun h9 => h9 (nI_le (Nat.le_refl 16) (by decide))))
    refine lv_aload_n hx hb dXP_prepareRows_72 rfl (lv_at hl 3 rfl) ?_
    refine va_get (D := (dC, dI)) (ci := 2) (v := .ref (pz_ab a)) (C := "ParityArray") (T := TXP) (N := 5) hx hb hts (fun w h => List.mem_cons_of_mem _ (inXP w h)) hown hK hP 0 rfl rfl 2 (by decide) (hts _ (List.mem_cons_of_mem _ tw_82)) (fun _ h9 => h9) rfl dXP_prepareRows_73 ?_
    refine lv_iload_n hx hb dXP_prepareRows_76 rfl (lv_at hl 5 rfl) ?_
    refine lv_lload_n hx hb dXP_prepareRows_77 rfl (lv_at hl 6 rfl) ?_
    refine va_last hx hb hK hP hD hS 3 0 rfl rfl (vp_in_nI (by omega) (by decide)) dXP_prepareRows_78 (fun H locs hP hD hS => ?_)
    rw [nI_clamp (show i0 < 2 ^ 31 by omega)] at hP hD
    have hP : va_P (dC, dI) vwCl (pz_XW a cJ cD dk su (vp_updL bl1 i0 w0) pt1 py) H := hP
    have hD : va_D A (pz_XW a cJ cD dk su (vp_updL bl1 i0 w0) pt1 py) := hD
    refine lv_iconst (v := nI 0) hx hb dXP_prepareRows_79 (by decide) ?_
    refine lv_istore hx hb dXP_prepareRows_80 hl (by decide) rfl (fun ls hl => ?_)
    have hl : lv_has ls 8 [(7, .int (nI 0)), (6, .ref ((pz_da a (n0 / 4 % 5)).1)), (5, .int (nI (n0 / 4))), (0, .ref (pz_ax a)), (1, .int (nI n0)), (2, .int (nI i0)), (3, .long w0)] := hl
    refine pz_loop (fun _ => 0) (fun _ => 0) 16 (fun k ls H locs => ∃ py1 : Nat → Int64, lv_has ls 8 [(7, .int (nI k)), (6, .ref ((pz_da a (n0 / 4 % 5)).1)), (5, .int (nI (n0 / 4))), (0, .ref (pz_ax a)), (1, .int (nI n0)), (2, .int (nI i0)), (3, .long w0)] ∧ va_P (dC, dI) vwCl (pz_XW a cJ cD dk su (vp_updL bl1 i0 w0) pt1 py1) H ∧ va_D A (pz_XW a cJ cD dk su (vp_updL bl1 i0 w0) pt1 py1) ∧ va_S A s.heap H locs ∧ ∀ j, j < k → py1 j = pt1 j ^^^ vp_updL bl1 i0 w0 j) ?_ ?_ 16 0 (by omega) _ _ _ ⟨py, hl, hP, hD, hS, fun j h9 => absurd h9 (Nat.not_lt_zero _)⟩
    · intro k ls H locs hk hI ih
      obtain ⟨py1, hl, hP, hD, hS, hq2⟩ := hI
      refine lv_iload hx hb dXP_prepareRows_82 (lv_at hl 0 rfl) ?_
      refine lv_bipush (v := nI 16) hx hb dXP_prepareRows_84 (by decide) ?_
      refine lv_icmp_ge (tgt := 117) hx hb dXP_prepareRows_86 (by decide) (fun hc => absurd hc (nI_ge hk (by decide))) (fun _ => ?_)
      refine lv_aload_n hx hb dXP_prepareRows_89 rfl (lv_at hl 3 rfl) ?_
      refine va_get (D := (dC, dI)) (ci := 2) (v := .ref (pz_ay a)) (C := "ParityArray") (T := TXP) (N := 5) hx hb hts (fun w h => List.mem_cons_of_mem _ (inXP w h)) hown hK hP 0 rfl rfl 4 (by decide) (hts _ (List.mem_cons_of_mem _ tw_84)) (fun _ h9 => h9) rfl dXP_prepareRows_90 ?_
      refine lv_iload hx hb dXP_prepareRows_93 (lv_at hl 0 rfl) ?_
      refine lv_aload_n hx hb dXP_prepareRows_95 rfl (lv_at hl 3 rfl) ?_
      refine va_get (D := (dC, dI)) (ci := 2) (v := .ref (pz_ap a)) (C := "ParityArray") (T := TXP) (N := 5) hx hb hts (fun w h => List.mem_cons_of_mem _ (inXP w h)) hown hK hP 0 rfl rfl 3 (by decide) (hts _ (List.mem_cons_of_mem _ tw_83)) (fun _ h9 => h9) rfl dXP_prepareRows_96 ?_
      refine lv_iload hx hb dXP_prepareRows_99 (lv_at hl 0 rfl) ?_
      refine va_lald hx hb hK hP 4 0 rfl rfl (vp_in_nI (by omega) (by decide)) dXP_prepareRows_101 ?_
      refine lv_topl (nm_r (congrArg pt1 (nI_clamp (by omega))) ?_)
      refine lv_aload_n hx hb dXP_prepareRows_102 rfl (lv_at hl 3 rfl) ?_
      refine va_get (D := (dC, dI)) (ci := 2) (v := .ref (pz_ab a)) (C := "ParityArray") (T := TXP) (N := 5) hx hb hts (fun w h => List.mem_cons_of_mem _ (inXP w h)) hown hK hP 0 rfl rfl 2 (by decide) (hts _ (List.mem_cons_of_mem _ tw_82)) (fun _ h9 => h9) rfl dXP_prepareRows_103 ?_
      refine lv_iload hx hb dXP_prepareRows_106 (lv_at hl 0 rfl) ?_
      refine va_lald hx hb hK hP 3 0 rfl rfl (vp_in_nI (by omega) (by decide)) dXP_prepareRows_108 ?_
      refine lv_topl (nm_r (congrArg (vp_updL bl1 i0 w0) (nI_clamp (by omega))) ?_)
      refine lv_lxor hx hb dXP_prepareRows_109 ?_
      refine va_last hx hb hK hP hD hS 5 0 rfl rfl (vp_in_nI (by omega) (by decide)) dXP_prepareRows_110 (fun H locs hP hD hS => ?_)
      rw [nI_clamp (show k < 2 ^ 31 by omega)] at hP hD
      have hP : va_P (dC, dI) vwCl (pz_XW a cJ cD dk su (vp_updL bl1 i0 w0) pt1 (vp_updL py1 k ((pt1 k) ^^^ ((vp_updL bl1 i0 w0) k)))) H := hP
      have hD : va_D A (pz_XW a cJ cD dk su (vp_updL bl1 i0 w0) pt1 (vp_updL py1 k ((pt1 k) ^^^ ((vp_updL bl1 i0 w0) k)))) := hD
      refine lv_iinc (k := 0) (v := nI (k + 1)) hx hb dXP_prepareRows_111 hl rfl (by rw [nI_succ]; rfl) (by decide) rfl (fun ls hl => ?_)
      have hl : lv_has ls 8 [(7, .int (nI (k + 1))), (6, .ref ((pz_da a (n0 / 4 % 5)).1)), (5, .int (nI (n0 / 4))), (0, .ref (pz_ax a)), (1, .int (nI n0)), (2, .int (nI i0)), (3, .long w0)] := hl
      refine lv_goto (tgt := 82) hx hb dXP_prepareRows_114 (by decide) ?_
      exact ih _ _ _ ⟨_, hl, hP, hD, hS, fun j h9 => by
        by_cases e9 : j = k
        · subst e9; exact pk_uLs
        · rw [pk_uLn e9]; exact hq2 j (by omega)⟩
    · intro ls H locs hI
      obtain ⟨py1, hl, hP, hD, hS, hq2⟩ := hI
      refine lv_iload hx hb dXP_prepareRows_82 (lv_at hl 0 rfl) ?_
      refine lv_bipush (v := nI 16) hx hb dXP_prepareRows_84 (by decide) ?_
      refine lv_icmp_ge (tgt := 117) hx hb dXP_prepareRows_86 (by decide) (fun _ => ?_) (fun hc => absurd hc (fun h9 => h9 (nI_le (Nat.le_refl 16) (by decide))))
      exact W.vret hx hb hr (fun t ht hW => ⟨⟨(vp_updL bl1 i0 w0, pt1, py1), rfl, ⟨fun j h9 => by
          by_cases e9 : j = i0
          · subst e9; rw [if_pos rfl]; exact pk_uLs
          · rw [if_neg e9]; exact (pk_uLn e9).trans (hq1 j h9).1, fun j h9 => (hq1 j h9).2, fun j h9 => hq2 j h9⟩, by rw [ht]; exact hP, va_K.moved hW.alike hK, hAe ▸ hD⟩, hS.F ht⟩) hS.2.2 dXP_prepareRows_117

theorem pz_w1_th (dk : Nat → pz_Dk) (su : pz_Su) (pt : Nat → Int64) (n d : Nat) : pz_th ((pz_w1 dk su pt n).1 d) = pz_th (dk d) := by
  unfold pz_w1
  split
  · dsimp only
    by_cases e : d = n / 4 % 5
    · subst e; rw [pz_up_s]; exact pz_drec_th _ _ _ _
    · rw [pz_up_n _ _ e]
  · rfl
theorem pz_w2_th (x : (Nat → pz_Dk) × pz_Su) (bl : Nat → Int64) (n d : Nat) : pz_th ((pz_w2 x bl n).1 d) = pz_th (x.1 d) := by
  unfold pz_w2
  split
  · dsimp only
    by_cases e : d = pz_dn n
    · subst e; rw [pz_up_s]; rfl
    · rw [pz_up_n _ _ e]
  · rfl
theorem pz_w1_su (dk : Nat → pz_Dk) (su : pz_Su) (pt : Nat → Int64) (n : Nat) : pz_cw (pz_w1 dk su pt n).2 = pz_cw su ∧ pz_cb (pz_w1 dk su pt n).2 = pz_cb su ∧ pz_wc (pz_w1 dk su pt n).2 ≤ pz_wc su + 1 := by
  unfold pz_w1
  split
  · exact ⟨(pz_let_keep 136 su).2.2.1, (pz_let_keep 136 su).2.2.2.1, pz_let_wc 136 su⟩
  · exact ⟨rfl, rfl, Nat.le_succ _⟩
theorem pz_w2_su (x : (Nat → pz_Dk) × pz_Su) (bl : Nat → Int64) (n : Nat) : pz_cw (pz_w2 x bl n).2 = pz_cw x.2 ∧ pz_cb (pz_w2 x bl n).2 = pz_cb x.2 ∧ pz_wc (pz_w2 x bl n).2 ≤ pz_wc x.2 + 1 := by
  unfold pz_w2
  split
  · exact ⟨(pz_let_keep 128 x.2).2.2.1, (pz_let_keep 128 x.2).2.2.2.1, pz_let_wc 128 x.2⟩
  · exact ⟨rfl, rfl, Nat.le_succ _⟩
set_option maxHeartbeats 4000000 in
set_option maxRecDepth 100000 in
/-- the writes of a set -/
theorem c_XP_writeRows (l : Launch) (dC : Nat → ClassId) (dI : Nat → Nat → Nat) (sz : Nat) (a : pz_Ad) (cJ cD : ClassId) (dk : Nat → pz_Dk) (su : pz_Su) (bl pt py : Nat → Int64) (n0 : Nat) (hth : ∀ d, d < 5 → pz_th (dk d) ≤ 150) (hcw : pz_cw su ≤ 10) (hcb : pz_cb su ≤ 200) (hwc : pz_wc su < 50) (hn0 : n0 < 600) : Met l yXP_writeRows wsXP_writeRows ({ frames := 2, cells := 0, slots := 0, locals := 108 }) (va_Pc [.ref (pz_ax a), .int (nI n0)] (fun U => U.heap.size = sz ∧ va_P (dC, dI) vwCl (pz_XW a cJ cD dk su bl pt py) U.heap ∧ va_K (dC, dI) vwCl [(cJ, .long), (cD, .object "ParityArray$Disk")] U ∧ va_D (fun _ => True) (pz_XW a cJ cD dk su bl pt py))) (va_Qv (fun (u : (Nat → pz_Dk) × pz_Su) => u = pz_wrs dk su bl pt py n0) (fun u t => va_P (dC, dI) vwCl (pz_XW a cJ cD u.1 u.2 bl pt py) t.heap ∧ va_K (dC, dI) vwCl [(cJ, .long), (cD, .object "ParityArray$Disk")] t ∧ va_D (va_A (pz_XW a cJ cD dk su bl pt py) sz) (pz_XW a cJ cD u.1 u.2 bl pt py)) (va_A (pz_XW a cJ cD dk su bl pt py) sz)) 0 0 (va_A (pz_XW a cJ cD dk su bl pt py) sz) := by
  refine Met.ofW (cc := cXP_writeRows) (maxL := 5) (ret := none) (by decide) rfl ?_
  intro p e s m args below meth c s₁ B hml hv
  obtain ⟨rfl, hsz, hP, hK, hD0⟩ := hv
  have hx := B.exec
  have hb := B.bytes
  have hr := B.returns
  have hts := atoms_spec (ws := wsXP_writeRows) B.pre
  have hown : s.vm.findClass "ParityArray" = some m.cls := findClass_of_methodNamed B.named
  have hlocks := B.notSynchronized
  subst hsz
  have hD := hD0.self (sz := s.heap.size)
  generalize hAe : va_A (pz_XW a cJ cD dk su bl pt py) s.heap.size = A at hD ⊢
  have hA : ∀ q : Nat, s.heap.size ≤ q → A q := fun q h => by rw [← hAe]; exact Or.inr h
  have hS : va_S A s.heap s.heap [] := va_S.rf
  have hl := lv_entry ([.ref (pz_ax a), .int (nI n0)]) (n := 5) (Nat.le_of_ble_eq_true rfl)
  rw [lg_entry_eq]
  generalize (lg_sl ([.ref (pz_ax a), .int (nI n0)]) ++ List.replicate (5 - (lg_sl ([.ref (pz_ax a), .int (nI n0)])).length) Slot.unset).toArray = ls at hl ⊢
  have hl : lv_has ls 5 [(0, .ref (pz_ax a)), (1, .int (nI n0))] := hl
  have hP : va_P (dC, dI) vwCl (pz_XW a cJ cD dk su bl pt py) s.heap := hP
  have hD : va_D A (pz_XW a cJ cD dk su bl pt py) := hD
  refine lv_iload_n hx hb dXP_writeRows_0 rfl (lv_at hl 1 rfl) ?_
  refine va_calli (va_runS (As := [.int (nI n0)]) (rest := []) ⟨hx, hb, hml, hown, hts⟩ (c_XP_stripeOf l n0 hn0) (va_cwS 1 hts (pz_gc (List.mem_cons_of_mem _ tw_198) rfl (pz_gc (List.mem_cons_of_mem _ tw_199) rfl (pz_gc (List.mem_cons_of_mem _ tw_1) rfl (pz_gi tcXP_stripeOf)))) rfl rfl rfl (by decide +kernel) ⟨Nat.le_of_ble_eq_true rfl, Nat.le_of_ble_eq_true rfl⟩) pz_preS0 rfl rfl hl.1 rfl (lv_room (Nat.le_of_ble_eq_true rfl)) dXP_writeRows_1 ⟨Nat.zero_le _, Nat.zero_le _⟩) hS (fun q _ h => h.elim) (fun q h => h.elim) (fun r u t H locs ht hvm hw _ hz hk9 hS => ?_)
  have hP := pz_keep hP hk9
  clear hk9 hz ht hvm
  subst hw
  refine lv_istore_n hx hb dXP_writeRows_4 rfl hl (by decide) rfl (fun ls hl => ?_)
  have hl : lv_has ls 5 [(2, .int (nI (n0 / 4))), (0, .ref (pz_ax a)), (1, .int (nI n0))] := hl
  refine lv_aload_n hx hb dXP_writeRows_5 rfl (lv_at hl 1 rfl) ?_
  refine va_get (D := (dC, dI)) (ci := 2) (v := .ref (pz_ad a)) (C := "ParityArray") (T := TXP) (N := 5) hx hb hts (fun w h => List.mem_cons_of_mem _ (inXP w h)) hown hK hP 0 rfl rfl 0 (by decide) (hts _ (List.mem_cons_of_mem _ tw_80)) (fun _ h9 => h9) rfl dXP_writeRows_6 ?_
  refine lv_iload_n hx hb dXP_writeRows_9 rfl (lv_at hl 0 rfl) ?_
  refine va_calli (va_runS (As := [.int (nI (n0 / 4))]) (rest := [.ref (pz_ad a)]) ⟨hx, hb, hml, hown, hts⟩ (c_XP_parityDiskOf l (n0 / 4) (by omega)) (va_cwS 1 hts (pz_gc (List.mem_cons_of_mem _ tw_204) rfl (pz_gc (List.mem_cons_of_mem _ tw_205) rfl (pz_gc (List.mem_cons_of_mem _ tw_1) rfl (pz_gi tcXP_parityDiskOf)))) rfl rfl rfl (by decide +kernel) ⟨Nat.le_of_ble_eq_true rfl, Nat.le_of_ble_eq_true rfl⟩) pz_preS0 rfl rfl hl.1 rfl (lv_room (Nat.le_of_ble_eq_true rfl)) dXP_writeRows_10 ⟨Nat.zero_le _, Nat.zero_le _⟩) hS (fun q _ h => h.elim) (fun q h => h.elim) (fun r u t H locs ht hvm hw _ hz hk9 hS => ?_)
  have hP := pz_keep hP hk9
  clear hk9 hz ht hvm
  subst hw
  refine pz_ald hx hb hK hP 1 rfl (show n0 / 4 % 5 < 5 by omega) dXP_writeRows_13 ?_
  refine lv_astore_n hx hb dXP_writeRows_14 rfl hl (by decide) rfl (fun ls hl => ?_)
  have hl : lv_has ls 5 [(3, .ref ((pz_da a (n0 / 4 % 5)).1)), (2, .int (nI (n0 / 4))), (0, .ref (pz_ax a)), (1, .int (nI n0))] := hl
  refine lv_aload_n hx hb dXP_writeRows_15 rfl (lv_at hl 2 rfl) ?_
  refine va_get (D := (dC, dI)) (ci := 2) (v := .ref (pz_ad a)) (C := "ParityArray") (T := TXP) (N := 5) hx hb hts (fun w h => List.mem_cons_of_mem _ (inXP w h)) hown hK hP 0 rfl rfl 0 (by decide) (hts _ (List.mem_cons_of_mem _ tw_80)) (fun _ h9 => h9) rfl dXP_writeRows_16 ?_
  refine lv_iload_n hx hb dXP_writeRows_19 rfl (lv_at hl 3 rfl) ?_
  refine va_calli (va_runS (As := [.int (nI n0)]) (rest := [.ref (pz_ad a)]) ⟨hx, hb, hml, hown, hts⟩ (c_XP_diskOf l n0 hn0) (va_cwS 1 hts (pz_gc (List.mem_cons_of_mem _ tw_201) rfl (pz_gc (List.mem_cons_of_mem _ tw_202) rfl (pz_gc (List.mem_cons_of_mem _ tw_1) rfl (pz_gi tcXP_diskOf)))) rfl rfl rfl (by decide +kernel) ⟨Nat.le_of_ble_eq_true rfl, Nat.le_of_ble_eq_true rfl⟩) pz_preS0 rfl rfl hl.1 rfl (lv_room (Nat.le_of_ble_eq_true rfl)) dXP_writeRows_20 ⟨Nat.zero_le _, Nat.zero_le _⟩) hS (fun q _ h => h.elim) (fun q h => h.elim) (fun r u t H locs ht hvm hw _ hz hk9 hS => ?_)
  have hP := pz_keep hP hk9
  clear hk9 hz ht hvm
  subst hw
  refine pz_ald hx hb hK hP 1 rfl (pz_dn_lt n0) dXP_writeRows_23 ?_
  refine lv_astore hx hb dXP_writeRows_24 hl (by decide) rfl (fun ls hl => ?_)
  have hl : lv_has ls 5 [(4, .ref ((pz_da a (pz_dn n0)).1)), (3, .ref ((pz_da a (n0 / 4 % 5)).1)), (2, .int (nI (n0 / 4))), (0, .ref (pz_ax a)), (1, .int (nI n0))] := hl
  refine pz_seq 53 [] 0 0 (fun ls H locs => lv_has ls 5 [(4, .ref ((pz_da a (pz_dn n0)).1)), (3, .ref ((pz_da a (n0 / 4 % 5)).1)), (2, .int (nI (n0 / 4))), (0, .ref (pz_ax a)), (1, .int (nI n0))] ∧ va_P (dC, dI) vwCl (pz_XW a cJ cD ((pz_w1 dk su pt n0).1) ((pz_w1 dk su pt n0).2) bl pt py) H ∧ va_D A (pz_XW a cJ cD ((pz_w1 dk su pt n0).1) ((pz_w1 dk su pt n0).2) bl pt py) ∧ va_S A s.heap H locs) ?_ ?_
  · intro go
    refine lv_aload_n hx hb dXP_writeRows_26 rfl (lv_at hl 1 rfl) ?_
    refine lv_iload_n hx hb dXP_writeRows_27 rfl (lv_at hl 2 rfl) ?_
    refine va_calli (va_runV (As := [.int (nI (n0 / 4))]) (rest := []) ⟨hx, hb, hml, hown, hts⟩ (c_XD_isThere l dC dI _ _ _ cJ (dk (n0 / 4 % 5)) (n0 / 4) (hth _ (show n0 / 4 % 5 < 5 by omega)) (by omega)) (cwV 1 hts (pz_gc (List.mem_cons_of_mem _ tw_207) rfl (pz_gc (List.mem_cons_of_mem _ tw_208) rfl (pz_gc (List.mem_cons_of_mem _ tw_209) rfl (pz_gc (List.mem_cons_of_mem _ tw_3) rfl (pz_gi tcXD_isThere))))) rfl rfl rfl (by decide +kernel) ⟨Nat.le_of_ble_eq_true rfl, Nat.le_of_ble_eq_true rfl⟩) (pz_preV (va_recv hK (pz_Xd_P (d := (n0 / 4 % 5)) (show n0 / 4 % 5 < 5 by omega) hP) (q0 := 0) rfl rfl) (pz_Xd_P (d := (n0 / 4 % 5)) (show n0 / 4 % 5 < 5 by omega) hP) (hK.sub [0] rfl)) rfl rfl hl.1 rfl (lv_room (Nat.le_of_ble_eq_true rfl)) dXP_writeRows_28 ⟨Nat.zero_le _, Nat.zero_le _⟩) hS (fun q _ h => h.elim) (fun q h => h.elim) (fun r u t H locs ht hvm hw _ hz hk9 hS => ?_)
    have hP := pz_keep hP hk9
    clear hk9 hz ht hvm
    subst hw
    refine lv_if_eq (tgt := 53) hx hb dXP_writeRows_31 (by decide) (fun hc => ?_) (fun hc => ?_)
    · have hc : (decide (n0 / 4 < pz_th (dk (n0 / 4 % 5)))) = false := pz_b0.mp hc
      have hc := of_decide_eq_false hc
      have e9 : pz_w1 dk su pt n0 = (dk, su) := by unfold pz_w1; rw [if_neg hc]
      refine go _ _ _ ⟨hl, ?_, ?_, hS⟩
      · rw [e9]; exact hP
      · rw [e9]; exact hD
    · have hc : (decide (n0 / 4 < pz_th (dk (n0 / 4 % 5)))) = true := pz_bn hc
      have hc := of_decide_eq_true hc
      refine lv_aload_n hx hb dXP_writeRows_34 rfl (lv_at hl 1 rfl) ?_
      refine lv_iload_n hx hb dXP_writeRows_35 rfl (lv_at hl 4 rfl) ?_
      refine lv_aload_n hx hb dXP_writeRows_36 rfl (lv_at hl 3 rfl) ?_
      refine va_get (D := (dC, dI)) (ci := 2) (v := .ref (pz_ap a)) (C := "ParityArray") (T := TXP) (N := 5) hx hb hts (fun w h => List.mem_cons_of_mem _ (inXP w h)) hown hK hP 0 rfl rfl 3 (by decide) (hts _ (List.mem_cons_of_mem _ tw_83)) (fun _ h9 => h9) rfl dXP_writeRows_37 ?_
      refine lv_aload_n hx hb dXP_writeRows_40 rfl (lv_at hl 3 rfl) ?_
      refine va_get (D := (dC, dI)) (ci := 2) (v := .ref (pz_as a)) (C := "ParityArray") (T := TXP) (N := 5) hx hb hts (fun w h => List.mem_cons_of_mem _ (inXP w h)) hown hK hP 0 rfl rfl 1 (by decide) (hts _ (List.mem_cons_of_mem _ tw_81)) (fun _ h9 => h9) rfl dXP_writeRows_41 ?_
      refine lv_sipush (v := nI 136) hx hb dXP_writeRows_44 (by decide) ?_
      have hPc := pz_Xs_P hP
      have hDc := pz_Xs_D hD
      have hFc := pz_Xs_F hD hS hA
      refine va_calli (va_runV (As := [.int (nI 136)]) (rest := [.ref (pz_ap a), .int (nI n0), .ref ((pz_da a (n0 / 4 % 5)).1)]) ⟨hx, hb, hml, hown, hts⟩ (c_XS_letThrough l dC dI _ (pz_as a) su 136 (Nat.le_refl _) hcw hcb (by omega)) (cwV 1 hts (pz_gc (List.mem_cons_of_mem _ tw_231) rfl (pz_gc (List.mem_cons_of_mem _ tw_232) rfl (pz_gc (List.mem_cons_of_mem _ tw_233) rfl (pz_gc (List.mem_cons_of_mem _ tw_2) rfl (pz_gi tcXS_letThrough))))) rfl rfl rfl (by decide +kernel) ⟨Nat.le_of_ble_eq_true rfl, Nat.le_of_ble_eq_true rfl⟩) (pz_preVw (va_recv hK hPc (q0 := 0) rfl rfl) hPc (hK.sub [] rfl) hDc) rfl rfl hl.1 rfl (lv_room (Nat.le_of_ble_eq_true rfl)) dXP_writeRows_47 ⟨Nat.zero_le _, Nat.zero_le _⟩) hS (fun q _ h => hFc q h) hFc (fun r u t H1 locs ht hvm hw hB hz hk1 hS => ?_)
      obtain ⟨hP1, hK1, hD1⟩ := hB
      rw [ht] at hP1
      obtain ⟨rfl, rfl⟩ := hw
      obtain ⟨hP, hD⟩ := pz_Xs_J hP hD hk1 hFc hP1 hD1
      clear hPc hDc hFc hP1 hD1 hK1 hk1 hz ht hvm
      generalize H1 = H at hP hS ⊢
      have hPc := pz_Xp_P (d := (n0 / 4 % 5)) (show n0 / 4 % 5 < 5 by omega) hP
      have hDc := pz_Xp_D (d := (n0 / 4 % 5)) (show n0 / 4 % 5 < 5 by omega) hD
      have hFc := pz_Xp_F (d := (n0 / 4 % 5)) (show n0 / 4 % 5 < 5 by omega) hD hS hA
      refine va_callv (va_runV (As := [.int (nI n0), .ref (pz_ap a), .int (nI ((pz_let 136 su).1))]) (rest := []) ⟨hx, hb, hml, hown, hts⟩ (c_XD_writeRecord l dC dI _ _ _ _ cJ (dk (n0 / 4 % 5)) (pz_ap a) pt n0 (pz_let 136 su).1 hn0 (pz_let_le 136 su)) (cwV 3 hts (pz_gc (List.mem_cons_of_mem _ tw_238) rfl (pz_gc (List.mem_cons_of_mem _ tw_239) rfl (pz_gc (List.mem_cons_of_mem _ tw_240) rfl (pz_gc (List.mem_cons_of_mem _ tw_3) rfl (pz_gi tcXD_writeRecord))))) rfl rfl rfl (by decide +kernel) ⟨Nat.le_of_ble_eq_true rfl, Nat.le_of_ble_eq_true rfl⟩) (pz_preVw (va_recv hK hPc (q0 := 0) rfl rfl) hPc (hK.sub [0] rfl) hDc) rfl rfl hl.1 rfl (lv_room (Nat.le_of_ble_eq_true rfl)) dXP_writeRows_50 ⟨Nat.zero_le _, Nat.zero_le _⟩) hS (fun q _ h => hFc q h) hFc (fun u t H1 locs ht hvm hw hB hz hk1 hS => ?_)
      obtain ⟨hP1, hK1, hD1⟩ := hB
      rw [ht] at hP1
      subst hw
      obtain ⟨hP, hD⟩ := pz_Xp_J (d := (n0 / 4 % 5)) (show n0 / 4 % 5 < 5 by omega) hP hD hk1 hFc hP1 hD1
      clear hPc hDc hFc hP1 hD1 hK1 hk1 hz ht hvm
      generalize H1 = H at hP hS ⊢
      have e9 : pz_w1 dk su pt n0 = (va_up dk (n0 / 4 % 5) (pz_drec (dk (n0 / 4 % 5)) n0 pt (pz_let 136 su).1), (pz_let 136 su).2) := by unfold pz_w1; rw [if_pos hc]
      refine go _ _ _ ⟨hl, ?_, ?_, hS⟩
      · rw [e9]; exact hP
      · rw [e9]; exact hD
  · intro ls H locs hI
    obtain ⟨hl, hP, hD, hS⟩ := hI
    have hth1 : ∀ d, d < 5 → pz_th ((pz_w1 dk su pt n0).1 d) ≤ 150 := fun d h9 => by rw [pz_w1_th]; exact hth d h9
    have hs1 := pz_w1_su dk su pt n0
    generalize hx1 : pz_w1 dk su pt n0 = x1 at hP hD hth1 hs1 ⊢
    refine pz_seq 82 [] 0 0 (fun ls H locs => lv_has ls 5 [(4, .ref ((pz_da a (pz_dn n0)).1)), (3, .ref ((pz_da a (n0 / 4 % 5)).1)), (2, .int (nI (n0 / 4))), (0, .ref (pz_ax a)), (1, .int (nI n0))] ∧ va_P (dC, dI) vwCl (pz_XW a cJ cD ((pz_w2 x1 bl n0).1) ((pz_w2 x1 bl n0).2) bl pt py) H ∧ va_D A (pz_XW a cJ cD ((pz_w2 x1 bl n0).1) ((pz_w2 x1 bl n0).2) bl pt py) ∧ va_S A s.heap H locs) ?_ ?_
    · intro go
      refine lv_aload hx hb dXP_writeRows_53 (lv_at hl 0 rfl) ?_
      refine lv_iload_n hx hb dXP_writeRows_55 rfl (lv_at hl 2 rfl) ?_
      refine va_calli (va_runV (As := [.int (nI (n0 / 4))]) (rest := []) ⟨hx, hb, hml, hown, hts⟩ (c_XD_isThere l dC dI _ _ _ cJ (x1.1 (pz_dn n0)) (n0 / 4) (hth1 _ (pz_dn_lt n0)) (by omega)) (cwV 1 hts (pz_gc (List.mem_cons_of_mem _ tw_207) rfl (pz_gc (List.mem_cons_of_mem _ tw_208) rfl (pz_gc (List.mem_cons_of_mem _ tw_209) rfl (pz_gc (List.mem_cons_of_mem _ tw_3) rfl (pz_gi tcXD_isThere))))) rfl rfl rfl (by decide +kernel) ⟨Nat.le_of_ble_eq_true rfl, Nat.le_of_ble_eq_true rfl⟩) (pz_preV (va_recv hK (pz_Xd_P (d := (pz_dn n0)) (pz_dn_lt n0) hP) (q0 := 0) rfl rfl) (pz_Xd_P (d := (pz_dn n0)) (pz_dn_lt n0) hP) (hK.sub [0] rfl)) rfl rfl hl.1 rfl (lv_room (Nat.le_of_ble_eq_true rfl)) dXP_writeRows_56 ⟨Nat.zero_le _, Nat.zero_le _⟩) hS (fun q _ h => h.elim) (fun q h => h.elim) (fun r u t H locs ht hvm hw _ hz hk9 hS => ?_)
      have hP := pz_keep hP hk9
      clear hk9 hz ht hvm
      subst hw
      refine lv_if_eq (tgt := 82) hx hb dXP_writeRows_59 (by decide) (fun hc => ?_) (fun hc => ?_)
      · have hc : (decide (n0 / 4 < pz_th (x1.1 (pz_dn n0)))) = false := pz_b0.mp hc
        have hc := of_decide_eq_false hc
        have e9 : pz_w2 x1 bl n0 = x1 := by unfold pz_w2; rw [if_neg hc]
        refine go _ _ _ ⟨hl, ?_, ?_, hS⟩
        · rw [e9]; exact hP
        · rw [e9]; exact hD
      · have hc : (decide (n0 / 4 < pz_th (x1.1 (pz_dn n0)))) = true := pz_bn hc
        have hc := of_decide_eq_true hc
        refine lv_aload hx hb dXP_writeRows_62 (lv_at hl 0 rfl) ?_
        refine lv_iload_n hx hb dXP_writeRows_64 rfl (lv_at hl 2 rfl) ?_
        refine lv_aload_n hx hb dXP_writeRows_65 rfl (lv_at hl 3 rfl) ?_
        refine va_get (D := (dC, dI)) (ci := 2) (v := .ref (pz_ab a)) (C := "ParityArray") (T := TXP) (N := 5) hx hb hts (fun w h => List.mem_cons_of_mem _ (inXP w h)) hown hK hP 0 rfl rfl 2 (by decide) (hts _ (List.mem_cons_of_mem _ tw_82)) (fun _ h9 => h9) rfl dXP_writeRows_66 ?_
        refine lv_aload_n hx hb dXP_writeRows_69 rfl (lv_at hl 3 rfl) ?_
        refine va_get (D := (dC, dI)) (ci := 2) (v := .ref (pz_as a)) (C := "ParityArray") (T := TXP) (N := 5) hx hb hts (fun w h => List.mem_cons_of_mem _ (inXP w h)) hown hK hP 0 rfl rfl 1 (by decide) (hts _ (List.mem_cons_of_mem _ tw_81)) (fun _ h9 => h9) rfl dXP_writeRows_70 ?_
        refine lv_sipush (v := nI 128) hx hb dXP_writeRows_73 (by decide) ?_
        have hPc := pz_Xs_P hP
        have hDc := pz_Xs_D hD
        have hFc := pz_Xs_F hD hS hA
        refine va_calli (va_runV (As := [.int (nI 128)]) (rest := [.ref (pz_ab a), .int (nI (n0 / 4)), .ref ((pz_da a (pz_dn n0)).1)]) ⟨hx, hb, hml, hown, hts⟩ (c_XS_letThrough l dC dI _ (pz_as a) x1.2 128 (by omega) (by omega) (by omega) (by omega)) (cwV 1 hts (pz_gc (List.mem_cons_of_mem _ tw_231) rfl (pz_gc (List.mem_cons_of_mem _ tw_232) rfl (pz_gc (List.mem_cons_of_mem _ tw_233) rfl (pz_gc (List.mem_cons_of_mem _ tw_2) rfl (pz_gi tcXS_letThrough))))) rfl rfl rfl (by decide +kernel) ⟨Nat.le_of_ble_eq_true rfl, Nat.le_of_ble_eq_true rfl⟩) (pz_preVw (va_recv hK hPc (q0 := 0) rfl rfl) hPc (hK.sub [] rfl) hDc) rfl rfl hl.1 rfl (lv_room (Nat.le_of_ble_eq_true rfl)) dXP_writeRows_76 ⟨Nat.zero_le _, Nat.zero_le _⟩) hS (fun q _ h => hFc q h) hFc (fun r u t H1 locs ht hvm hw hB hz hk1 hS => ?_)
        obtain ⟨hP1, hK1, hD1⟩ := hB
        rw [ht] at hP1
        obtain ⟨rfl, rfl⟩ := hw
        obtain ⟨hP, hD⟩ := pz_Xs_J hP hD hk1 hFc hP1 hD1
        clear hPc hDc hFc hP1 hD1 hK1 hk1 hz ht hvm
        generalize H1 = H at hP hS ⊢
        have hPc := pz_Xb_P (d := (pz_dn n0)) (pz_dn_lt n0) hP
        have hDc := pz_Xb_D (d := (pz_dn n0)) (pz_dn_lt n0) hD
        have hFc := pz_Xb_F (d := (pz_dn n0)) (pz_dn_lt n0) hD hS hA
        refine va_callv (va_runV (As := [.int (nI (n0 / 4)), .ref (pz_ab a), .int (nI ((pz_let 128 x1.2).1))]) (rest := []) ⟨hx, hb, hml, hown, hts⟩ (c_XD_writeRow l dC dI _ _ _ _ cJ (x1.1 (pz_dn n0)) (pz_ab a) bl (n0 / 4) (pz_let 128 x1.2).1 (by omega) (pz_let_le 128 x1.2)) (cwV 3 hts (pz_gc (List.mem_cons_of_mem _ tw_245) rfl (pz_gc (List.mem_cons_of_mem _ tw_246) rfl (pz_gc (List.mem_cons_of_mem _ tw_247) rfl (pz_gc (List.mem_cons_of_mem _ tw_3) rfl (pz_gi tcXD_writeRow))))) rfl rfl rfl (by decide +kernel) ⟨Nat.le_of_ble_eq_true rfl, Nat.le_of_ble_eq_true rfl⟩) (pz_preVw (va_recv hK hPc (q0 := 0) rfl rfl) hPc (hK.sub [0] rfl) hDc) rfl rfl hl.1 rfl (lv_room (Nat.le_of_ble_eq_true rfl)) dXP_writeRows_79 ⟨Nat.zero_le _, Nat.zero_le _⟩) hS (fun q _ h => hFc q h) hFc (fun u t H1 locs ht hvm hw hB hz hk1 hS => ?_)
        obtain ⟨hP1, hK1, hD1⟩ := hB
        rw [ht] at hP1
        subst hw
        obtain ⟨hP, hD⟩ := pz_Xb_J (d := (pz_dn n0)) (pz_dn_lt n0) hP hD hk1 hFc hP1 hD1
        clear hPc hDc hFc hP1 hD1 hK1 hk1 hz ht hvm
        generalize H1 = H at hP hS ⊢
        have e9 : pz_w2 x1 bl n0 = (va_up x1.1 (pz_dn n0) (pz_dwr (x1.1 (pz_dn n0)) (n0 / 4) bl (pz_let 128 x1.2).1), (pz_let 128 x1.2).2) := by unfold pz_w2; rw [if_pos hc]
        refine go _ _ _ ⟨hl, ?_, ?_, hS⟩
        · rw [e9]; exact hP
        · rw [e9]; exact hD
    · intro ls H locs hI
      obtain ⟨hl, hP, hD, hS⟩ := hI
      have hth2 : ∀ d, d < 5 → pz_th ((pz_w2 x1 bl n0).1 d) ≤ 150 := fun d h9 => by rw [pz_w2_th]; exact hth1 d h9
      have hs2 := pz_w2_su x1 bl n0
      generalize hx2 : pz_w2 x1 bl n0 = x2 at hP hD hth2 hs2 ⊢
      refine lv_aload_n hx hb dXP_writeRows_82 rfl (lv_at hl 1 rfl) ?_
      refine lv_iload_n hx hb dXP_writeRows_83 rfl (lv_at hl 2 rfl) ?_
      refine va_calli (va_runV (As := [.int (nI (n0 / 4))]) (rest := []) ⟨hx, hb, hml, hown, hts⟩ (c_XD_isThere l dC dI _ _ _ cJ (x2.1 (n0 / 4 % 5)) (n0 / 4) (hth2 _ (show n0 / 4 % 5 < 5 by omega)) (by omega)) (cwV 1 hts (pz_gc (List.mem_cons_of_mem _ tw_207) rfl (pz_gc (List.mem_cons_of_mem _ tw_208) rfl (pz_gc (List.mem_cons_of_mem _ tw_209) rfl (pz_gc (List.mem_cons_of_mem _ tw_3) rfl (pz_gi tcXD_isThere))))) rfl rfl rfl (by decide +kernel) ⟨Nat.le_of_ble_eq_true rfl, Nat.le_of_ble_eq_true rfl⟩) (pz_preV (va_recv hK (pz_Xd_P (d := (n0 / 4 % 5)) (show n0 / 4 % 5 < 5 by omega) hP) (q0 := 0) rfl rfl) (pz_Xd_P (d := (n0 / 4 % 5)) (show n0 / 4 % 5 < 5 by omega) hP) (hK.sub [0] rfl)) rfl rfl hl.1 rfl (lv_room (Nat.le_of_ble_eq_true rfl)) dXP_writeRows_84 ⟨Nat.zero_le _, Nat.zero_le _⟩) hS (fun q _ h => h.elim) (fun q h => h.elim) (fun r u t H locs ht hvm hw _ hz hk9 hS => ?_)
      have hP := pz_keep hP hk9
      clear hk9 hz ht hvm
      subst hw
      refine lv_if_eq (tgt := 109) hx hb dXP_writeRows_87 (by decide) (fun hc => ?_) (fun hc => ?_)
      · have hc : (decide (n0 / 4 < pz_th (x2.1 (n0 / 4 % 5)))) = false := pz_b0.mp hc
        have hc := of_decide_eq_false hc
        exact W.vret hx hb hr (fun t ht hW => ⟨⟨x2, rfl, by show x2 = pz_w3 _ _ _; rw [hx1, hx2]; unfold pz_w3; rw [if_neg hc], by rw [ht]; exact hP, va_K.moved hW.alike hK, hAe ▸ hD⟩, hS.F ht⟩) hS.2.2 dXP_writeRows_109
      · have hc : (decide (n0 / 4 < pz_th (x2.1 (n0 / 4 % 5)))) = true := pz_bn hc
        have hc := of_decide_eq_true hc
        refine lv_aload_n hx hb dXP_writeRows_90 rfl (lv_at hl 1 rfl) ?_
        refine lv_iload_n hx hb dXP_writeRows_91 rfl (lv_at hl 2 rfl) ?_
        refine lv_aload_n hx hb dXP_writeRows_92 rfl (lv_at hl 3 rfl) ?_
        refine va_get (D := (dC, dI)) (ci := 2) (v := .ref (pz_ay a)) (C := "ParityArray") (T := TXP) (N := 5) hx hb hts (fun w h => List.mem_cons_of_mem _ (inXP w h)) hown hK hP 0 rfl rfl 4 (by decide) (hts _ (List.mem_cons_of_mem _ tw_84)) (fun _ h9 => h9) rfl dXP_writeRows_93 ?_
        refine lv_aload_n hx hb dXP_writeRows_96 rfl (lv_at hl 3 rfl) ?_
        refine va_get (D := (dC, dI)) (ci := 2) (v := .ref (pz_as a)) (C := "ParityArray") (T := TXP) (N := 5) hx hb hts (fun w h => List.mem_cons_of_mem _ (inXP w h)) hown hK hP 0 rfl rfl 1 (by decide) (hts _ (List.mem_cons_of_mem _ tw_81)) (fun _ h9 => h9) rfl dXP_writeRows_97 ?_
        refine lv_sipush (v := nI 128) hx hb dXP_writeRows_100 (by decide) ?_
        have hPc := pz_Xs_P hP
        have hDc := pz_Xs_D hD
        have hFc := pz_Xs_F hD hS hA
        refine va_calli (va_runV (As := [.int (nI 128)]) (rest := [.ref (pz_ay a), .int (nI (n0 / 4)), .ref ((pz_da a (n0 / 4 % 5)).1)]) ⟨hx, hb, hml, hown, hts⟩ (c_XS_letThrough l dC dI _ (pz_as a) x2.2 128 (by omega) (by omega) (by omega) (by omega)) (cwV 1 hts (pz_gc (List.mem_cons_of_mem _ tw_231) rfl (pz_gc (List.mem_cons_of_mem _ tw_232) rfl (pz_gc (List.mem_cons_of_mem _ tw_233) rfl (pz_gc (List.mem_cons_of_mem _ tw_2) rfl (pz_gi tcXS_letThrough))))) rfl rfl rfl (by decide +kernel) ⟨Nat.le_of_ble_eq_true rfl, Nat.le_of_ble_eq_true rfl⟩) (pz_preVw (va_recv hK hPc (q0 := 0) rfl rfl) hPc (hK.sub [] rfl) hDc) rfl rfl hl.1 rfl (lv_room (Nat.le_of_ble_eq_true rfl)) dXP_writeRows_103 ⟨Nat.zero_le _, Nat.zero_le _⟩) hS (fun q _ h => hFc q h) hFc (fun r u t H1 locs ht hvm hw hB hz hk1 hS => ?_)
        obtain ⟨hP1, hK1, hD1⟩ := hB
        rw [ht] at hP1
        obtain ⟨rfl, rfl⟩ := hw
        obtain ⟨hP, hD⟩ := pz_Xs_J hP hD hk1 hFc hP1 hD1
        clear hPc hDc hFc hP1 hD1 hK1 hk1 hz ht hvm
        generalize H1 = H at hP hS ⊢
        have hPc := pz_Xy_P (d := (n0 / 4 % 5)) (show n0 / 4 % 5 < 5 by omega) hP
        have hDc := pz_Xy_D (d := (n0 / 4 % 5)) (show n0 / 4 % 5 < 5 by omega) hD
        have hFc := pz_Xy_F (d := (n0 / 4 % 5)) (show n0 / 4 % 5 < 5 by omega) hD hS hA
        refine va_callv (va_runV (As := [.int (nI (n0 / 4)), .ref (pz_ay a), .int (nI ((pz_let 128 x2.2).1))]) (rest := []) ⟨hx, hb, hml, hown, hts⟩ (c_XD_writeRow l dC dI _ _ _ _ cJ (x2.1 (n0 / 4 % 5)) (pz_ay a) py (n0 / 4) (pz_let 128 x2.2).1 (by omega) (pz_let_le 128 x2.2)) (cwV 3 hts (pz_gc (List.mem_cons_of_mem _ tw_245) rfl (pz_gc (List.mem_cons_of_mem _ tw_246) rfl (pz_gc (List.mem_cons_of_mem _ tw_247) rfl (pz_gc (List.mem_cons_of_mem _ tw_3) rfl (pz_gi tcXD_writeRow))))) rfl rfl rfl (by decide +kernel) ⟨Nat.le_of_ble_eq_true rfl, Nat.le_of_ble_eq_true rfl⟩) (pz_preVw (va_recv hK hPc (q0 := 0) rfl rfl) hPc (hK.sub [0] rfl) hDc) rfl rfl hl.1 rfl (lv_room (Nat.le_of_ble_eq_true rfl)) dXP_writeRows_106 ⟨Nat.zero_le _, Nat.zero_le _⟩) hS (fun q _ h => hFc q h) hFc (fun u t H1 locs ht hvm hw hB hz hk1 hS => ?_)
        obtain ⟨hP1, hK1, hD1⟩ := hB
        rw [ht] at hP1
        subst hw
        obtain ⟨hP, hD⟩ := pz_Xy_J (d := (n0 / 4 % 5)) (show n0 / 4 % 5 < 5 by omega) hP hD hk1 hFc hP1 hD1
        clear hPc hDc hFc hP1 hD1 hK1 hk1 hz ht hvm
        generalize H1 = H at hP hS ⊢
        exact W.vret hx hb hr (fun t ht hW => ⟨⟨(va_up x2.1 (n0 / 4 % 5) (pz_dwr (x2.1 (n0 / 4 % 5)) (n0 / 4) py (pz_let 128 x2.2).1), (pz_let 128 x2.2).2), rfl, by show _ = pz_w3 _ _ _; rw [hx1, hx2]; unfold pz_w3; rw [if_pos hc], by rw [ht]; exact hP, va_K.moved hW.alike hK, hAe ▸ hD⟩, hS.F ht⟩) hS.2.2 dXP_writeRows_109

set_option maxHeartbeats 4000000 in
set_option maxRecDepth 100000 in
/-- a row rebuilt -/
theorem c_XP_rebuildStripe (l : Launch) (dC : Nat → ClassId) (dI : Nat → Nat → Nat) (sz : Nat) (a : pz_Ad) (cJ cD : ClassId) (dk : Nat → pz_Dk) (su : pz_Su) (bl pt py : Nat → Int64) (d0 s0 : Nat) (hth : ∀ d, d < 5 → pz_th (dk d) ≤ 150) (hd0 : d0 < 5) (hs0 : s0 < 150) : Met l yXP_rebuildStripe wsXP_rebuildStripe ({ frames := 2, cells := 0, slots := 0, locals := 108 }) (va_Pc [.ref (pz_ax a), .int (nI d0), .int (nI s0)] (fun U => U.heap.size = sz ∧ va_P (dC, dI) vwCl (pz_XW a cJ cD dk su bl pt py) U.heap ∧ va_K (dC, dI) vwCl [(cJ, .long), (cD, .object "ParityArray$Disk")] U ∧ va_D (fun _ => True) (pz_XW a cJ cD dk su bl pt py))) (va_Qv (fun (u : Nat → Int64) => ∀ j, j < 16 → u j = pz_oth (fun e => pz_R (dk e) (16 * s0 + j)) d0 5) (fun u t => va_P (dC, dI) vwCl (pz_XW a cJ cD (va_up dk d0 (pz_dwr (dk d0) s0 u 128)) su u pt py) t.heap ∧ va_K (dC, dI) vwCl [(cJ, .long), (cD, .object "ParityArray$Disk")] t ∧ va_D (va_A (pz_XW a cJ cD dk su bl pt py) sz) (pz_XW a cJ cD (va_up dk d0 (pz_dwr (dk d0) s0 u 128)) su u pt py)) (va_A (pz_XW a cJ cD dk su bl pt py) sz)) 0 0 (va_A (pz_XW a cJ cD dk su bl pt py) sz) := by
  refine Met.ofW (cc := cXP_rebuildStripe) (maxL := 4) (ret := none) (by decide) rfl ?_
  intro p e s m args below meth c s₁ B hml hv
  obtain ⟨rfl, hsz, hP, hK, hD0⟩ := hv
  have hx := B.exec
  have hb := B.bytes
  have hr := B.returns
  have hts := atoms_spec (ws := wsXP_rebuildStripe) B.pre
  have hown : s.vm.findClass "ParityArray" = some m.cls := findClass_of_methodNamed B.named
  have hlocks := B.notSynchronized
  subst hsz
  have hD := hD0.self (sz := s.heap.size)
  generalize hAe : va_A (pz_XW a cJ cD dk su bl pt py) s.heap.size = A at hD ⊢
  have hA : ∀ q : Nat, s.heap.size ≤ q → A q := fun q h => by rw [← hAe]; exact Or.inr h
  have hS : va_S A s.heap s.heap [] := va_S.rf
  have hl := lv_entry ([.ref (pz_ax a), .int (nI d0), .int (nI s0)]) (n := 4) (Nat.le_of_ble_eq_true rfl)
  rw [lg_entry_eq]
  generalize (lg_sl ([.ref (pz_ax a), .int (nI d0), .int (nI s0)]) ++ List.replicate (4 - (lg_sl ([.ref (pz_ax a), .int (nI d0), .int (nI s0)])).length) Slot.unset).toArray = ls at hl ⊢
  have hl : lv_has ls 4 [(0, .ref (pz_ax a)), (1, .int (nI d0)), (2, .int (nI s0))] := hl
  have hP : va_P (dC, dI) vwCl (pz_XW a cJ cD dk su bl pt py) s.heap := hP
  have hD : va_D A (pz_XW a cJ cD dk su bl pt py) := hD
  refine lv_iconst (v := nI 0) hx hb dXP_rebuildStripe_0 (by decide) ?_
  refine lv_istore_n hx hb dXP_rebuildStripe_1 rfl hl (by decide) rfl (fun ls hl => ?_)
  have hl : lv_has ls 4 [(3, .int (nI 0)), (0, .ref (pz_ax a)), (1, .int (nI d0)), (2, .int (nI s0))] := hl
  refine pz_loop (fun _ => 0) (fun _ => 0) 16 (fun k ls H locs => ∃ bl1 : Nat → Int64, lv_has ls 4 [(3, .int (nI k)), (0, .ref (pz_ax a)), (1, .int (nI d0)), (2, .int (nI s0))] ∧ va_P (dC, dI) vwCl (pz_XW a cJ cD dk su bl1 pt py) H ∧ va_D A (pz_XW a cJ cD dk su bl1 pt py) ∧ va_S A s.heap H locs ∧ ∀ j, j < k → bl1 j = pz_oth (fun e => pz_R (dk e) (16 * s0 + j)) d0 5) ?_ ?_ 16 0 (by omega) _ _ _ ⟨bl, hl, hP, hD, hS, fun j h9 => absurd h9 (Nat.not_lt_zero _)⟩
  · intro k ls H locs hk hI ih
    obtain ⟨bl1, hl, hP, hD, hS, hq1⟩ := hI
    refine lv_iload_n hx hb dXP_rebuildStripe_2 rfl (lv_at hl 0 rfl) ?_
    refine lv_bipush (v := nI 16) hx hb dXP_rebuildStripe_3 (by decide) ?_
    refine lv_icmp_ge (tgt := 27) hx hb dXP_rebuildStripe_5 (by decide) (fun hc => absurd hc (nI_ge hk (by decide))) (fun _ => ?_)
    refine lv_aload_n hx hb dXP_rebuildStripe_8 rfl (lv_at hl 1 rfl) ?_
    refine va_get (D := (dC, dI)) (ci := 2) (v := .ref (pz_ab a)) (C := "ParityArray") (T := TXP) (N := 5) hx hb hts (fun w h => List.mem_cons_of_mem _ (inXP w h)) hown hK hP 0 rfl rfl 2 (by decide) (hts _ (List.mem_cons_of_mem _ tw_82)) (fun _ h9 => h9) rfl dXP_rebuildStripe_9 ?_
    refine lv_iload_n hx hb dXP_rebuildStripe_12 rfl (lv_at hl 0 rfl) ?_
    refine lv_aload_n hx hb dXP_rebuildStripe_13 rfl (lv_at hl 1 rfl) ?_
    refine lv_iload_n hx hb dXP_rebuildStripe_14 rfl (lv_at hl 2 rfl) ?_
    refine lv_iload_n hx hb dXP_rebuildStripe_15 rfl (lv_at hl 3 rfl) ?_
    refine lv_iload_n hx hb dXP_rebuildStripe_16 rfl (lv_at hl 0 rfl) ?_
    refine va_calll (va_runV (As := [.int (nI d0), .int (nI s0), .int (nI k)]) (rest := [.int (nI k), .ref (pz_ab a)]) ⟨hx, hb, hml, hown, hts⟩ (c_XP_othersTogether l dC dI a cJ cD dk su bl1 pt py d0 s0 k hth hd0 hs0 hk) (cwV 3 hts (pz_gc (List.mem_cons_of_mem _ tw_215) rfl (pz_gc (List.mem_cons_of_mem _ tw_217) rfl (pz_gc (List.mem_cons_of_mem _ ts_2) rfl (pz_gc (List.mem_cons_of_mem _ tw_1) rfl (pz_gi tcXP_othersTogether))))) rfl rfl rfl (by decide +kernel) ⟨Nat.le_of_ble_eq_true rfl, Nat.le_of_ble_eq_true rfl⟩) (pz_preV (va_recv hK hP (q0 := 0) rfl rfl) hP hK) rfl rfl hl.1 rfl (lv_room (Nat.le_of_ble_eq_true rfl)) dXP_rebuildStripe_17 ⟨Nat.zero_le _, Nat.zero_le _⟩) hS (fun q _ h => h.elim) (fun q h => h.elim) (fun r u t H locs ht hvm hw _ hz hk9 hS => ?_)
    have hP := pz_keep hP hk9
    clear hk9 hz ht hvm
    subst hw
    refine va_last hx hb hK hP hD hS 3 0 rfl rfl (vp_in_nI (by omega) (by decide)) dXP_rebuildStripe_20 (fun H locs hP hD hS => ?_)
    rw [nI_clamp (show k < 2 ^ 31 by omega)] at hP hD
    have hP : va_P (dC, dI) vwCl (pz_XW a cJ cD dk su (vp_updL bl1 k (pz_oth (fun e => pz_R (dk e) (16 * s0 + k)) d0 5)) pt py) H := hP
    have hD : va_D A (pz_XW a cJ cD dk su (vp_updL bl1 k (pz_oth (fun e => pz_R (dk e) (16 * s0 + k)) d0 5)) pt py) := hD
    refine lv_iinc (k := 0) (v := nI (k + 1)) hx hb dXP_rebuildStripe_21 hl rfl (by rw [nI_succ]; rfl) (by decide) rfl (fun ls hl => ?_)
    have hl : lv_has ls 4 [(3, .int (nI (k + 1))), (0, .ref (pz_ax a)), (1, .int (nI d0)), (2, .int (nI s0))] := hl
    refine lv_goto (tgt := 2) hx hb dXP_rebuildStripe_24 (by decide) ?_
    exact ih _ _ _ ⟨_, hl, hP, hD, hS, fun j h9 => by
      by_cases e9 : j = k
      · subst e9; exact pk_uLs
      · rw [pk_uLn e9]; exact hq1 j (by omega)⟩
  · intro ls H locs hI
    obtain ⟨bl1, hl, hP, hD, hS, hq1⟩ := hI
    refine lv_iload_n hx hb dXP_rebuildStripe_2 rfl (lv_at hl 0 rfl) ?_
    refine lv_bipush (v := nI 16) hx hb dXP_rebuildStripe_3 (by decide) ?_
    refine lv_icmp_ge (tgt := 27) hx hb dXP_rebuildStripe_5 (by decide) (fun _ => ?_) (fun hc => absurd hc (fun h9 => h9 (nI_le (Nat.le_refl 16) (by decide))))
    refine lv_aload_n hx hb dXP_rebuildStripe_27 rfl (lv_at hl 1 rfl) ?_
    refine va_get (D := (dC, dI)) (ci := 2) (v := .ref (pz_ad a)) (C := "ParityArray") (T := TXP) (N := 5) hx hb hts (fun w h => List.mem_cons_of_mem _ (inXP w h)) hown hK hP 0 rfl rfl 0 (by decide) (hts _ (List.mem_cons_of_mem _ tw_80)) (fun _ h9 => h9) rfl dXP_rebuildStripe_28 ?_
    refine lv_iload_n hx hb dXP_rebuildStripe_31 rfl (lv_at hl 2 rfl) ?_
    refine pz_ald hx hb hK hP 1 rfl hd0 dXP_rebuildStripe_32 ?_
    refine lv_iload_n hx hb dXP_rebuildStripe_33 rfl (lv_at hl 3 rfl) ?_
    refine lv_aload_n hx hb dXP_rebuildStripe_34 rfl (lv_at hl 1 rfl) ?_
    refine va_get (D := (dC, dI)) (ci := 2) (v := .ref (pz_ab a)) (C := "ParityArray") (T := TXP) (N := 5) hx hb hts (fun w h => List.mem_cons_of_mem _ (inXP w h)) hown hK hP 0 rfl rfl 2 (by decide) (hts _ (List.mem_cons_of_mem _ tw_82)) (fun _ h9 => h9) rfl dXP_rebuildStripe_35 ?_
    refine lv_sipush (v := nI 128) hx hb dXP_rebuildStripe_38 (by decide) ?_
    have hPc := pz_Xb_P (d := d0) hd0 hP
    have hDc := pz_Xb_D (d := d0) hd0 hD
    have hFc := pz_Xb_F (d := d0) hd0 hD hS hA
    refine va_callv (va_runV (As := [.int (nI s0), .ref (pz_ab a), .int (nI 128)]) (rest := []) ⟨hx, hb, hml, hown, hts⟩ (c_XD_writeRow l dC dI _ _ _ _ cJ (dk d0) (pz_ab a) bl1 s0 128 hs0 (Nat.le_refl _)) (cwV 3 hts (pz_gc (List.mem_cons_of_mem _ tw_245) rfl (pz_gc (List.mem_cons_of_mem _ tw_246) rfl (pz_gc (List.mem_cons_of_mem _ tw_247) rfl (pz_gc (List.mem_cons_of_mem _ tw_3) rfl (pz_gi tcXD_writeRow))))) rfl rfl rfl (by decide +kernel) ⟨Nat.le_of_ble_eq_true rfl, Nat.le_of_ble_eq_true rfl⟩) (pz_preVw (va_recv hK hPc (q0 := 0) rfl rfl) hPc (hK.sub [0] rfl) hDc) rfl rfl hl.1 rfl (lv_room (Nat.le_of_ble_eq_true rfl)) dXP_rebuildStripe_41 ⟨Nat.zero_le _, Nat.zero_le _⟩) hS (fun q _ h => hFc q h) hFc (fun u t H1 locs ht hvm hw hB hz hk1 hS => ?_)
    obtain ⟨hP1, hK1, hD1⟩ := hB
    rw [ht] at hP1
    subst hw
    obtain ⟨hP, hD⟩ := pz_Xb_J (d := d0) hd0 hP hD hk1 hFc hP1 hD1
    clear hPc hDc hFc hP1 hD1 hK1 hk1 hz ht hvm
    generalize H1 = H at hP hS ⊢
    exact W.vret hx hb hr (fun t ht hW => ⟨⟨bl1, rfl, fun j h9 => hq1 j h9, by rw [ht]; exact hP, va_K.moved hW.alike hK, hAe ▸ hD⟩, hS.F ht⟩) hS.2.2 dXP_rebuildStripe_44

