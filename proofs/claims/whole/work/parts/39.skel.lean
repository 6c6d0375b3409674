/-! THE CLAIM OUT OF ONE WALK OF THE LAW'S BODY. Your part is whole_start (and what it stands on); all else here is the same for every law, but numbers. -/
def R_law : String := "ParityArrayLaw"
def lw_P (b : Addr) (xs : List Int32) (args : Array Value) (s : State) : Prop := args = #[.ref b] ∧ s.IntsAt b xs ∧ xs.length ≤ 2560 ∧ (Jvm.Cond.and given_1 narrow_1).before args s = true
def lw_Q (_ : Array Value) (s : State) (o : Outcome) (t : State) : Prop := o = .returned (some (.int 1)) ∧ Framed s o t [] 601024 7293033
def lw_Z (below : List Frame) (a : Array Value) (s : State) : State → Prop := fun t => ∃ o, t.status = .running ∧ Ended t below o ∧ lw_Q a s o t
/-- the law's own end, with 1 on the stack, nothing written that was there before, its room as the claim has it -/
theorem lw_ret {p : Program} {l : Launch} {e : Env} {s : State} {m : MethodId} {below : List Frame} {meth : Method} {c : Code} {b : Nat} (hx : p.tables.exec = Jvm.exec) (hb : c.code = code) (hr : meth.sig.returnType = ret) (hlocks : meth.locks = false) {pc : Nat} {H : Heap} {ls : Array Slot} (hdg : decode code pc = .ok (.ireturn, 1)) : W p l e room_1 s m #[Value.ref b] below meth c H [] 601024 7293033 (lw_Z below #[Value.ref b] s) (F0 m pc ls [.int 1]) := by
  intro T hT X
  obtain ⟨fs, hret, hrun, hended, hW, hframe⟩ := X.leave (v := some (.int 1)) (hlocks := hlocks) (fun h => by rw [hr] at h; cases h)
  have hmeth' : T.vm.method? m = some meth := X.method'
  refine ⟨T.setFrames fs, ?_, .returned (some (.int 1)), hrun, hended, rfl, ⟨_, rfl⟩, hW, hframe⟩
  jvm_step X.here [X.here.top, hx, hb, hdg, hmeth', hr, ret, narrow_b1]
  (try refine ⟨rfl, ?_⟩); (try refine ⟨rfl, ?_⟩)
  first | (intro acts; rw [hret _ acts rfl rfl rfl]) | rw [hret _ _ rfl rfl rfl]
  exact Steps.refl _
/-- what holds at the law's entry: the machine, the code, the tables' words (any of lw_tbl by 'hts w (by decide +kernel)'), the script of L ints xs at the cell b, what the Statement gives of the start (any of its parts by flat_of_before) -/
def lw_At (p : Program) (s : State) (m : MethodId) (meth : Method) (c : Code) (b L : Nat) (xs : Nat → Int32) : Prop :=
  p.tables.exec = Jvm.exec ∧ c.code = code ∧ meth.sig.returnType = ret ∧ c.maxLocals = 8 ∧ s.vm.findClass R_law = some m.cls ∧ (∀ w ∈ lw_tbl, w.before #[Value.ref b] s = true) ∧ va_X b L xs s s.heap ∧ b < s.heap.size ∧ meth.locks = false ∧ (Jvm.Cond.and given_1 narrow_1).before #[Value.ref b] s = true
theorem pz_nws_in : ∀ w ∈ pz_nws, w ∈ lw_tbl := by decide +kernel
theorem pz_strs_in : ∀ q ∈ pz_strs, (Cond.stringRef "ParityArray" q.1 q.2) ∈ lw_tbl := by decide +kernel
theorem pz_strs_ex : ∀ q ∈ pz_strs, (Cond.exactly (.string "ParityArray" q.1) "java/lang/String") ∈ flatC (Jvm.Cond.and given_1 narrow_1) := by decide +kernel
def pz_c4 {α : Type} (a b c d : α) : Nat → α := fun k => match k with
  | 0 => a
  | 1 => b
  | 2 => c
  | _ => d
set_option maxHeartbeats 4000000 in
set_option maxRecDepth 100000 in
theorem pz_start {p : Program} {s : State} {m : MethodId} {meth : Method} {c : Code} {b L : Nat} {xs : Nat → Int32} (C0 : lw_At p s m meth c b L xs) : ∃ (dC : Nat → ClassId) (dI : Nat → Nat → Nat) (sa : Nat → Nat), va_K (dC, dI) vwCl [] s ∧ pz_NW s ∧ va_AO "ParityArray$Disk" s ∧ pz_SR sa s ∧ pz_ZS (fun q => s.heap.size ≤ q) s s.heap ∧ pz_CN s := by
  obtain ⟨hx, hb, hr, hml, hown, hts, hX, hbl, hlk, hgv⟩ := C0
  have hfl := flat_of_before _ hgv
  obtain ⟨c0, i0, k0⟩ := u_known (C := "ParityArray$Disk") (T := TXD) (N := 5) hts (fun w h => (List.mem_filter.mp (inXD w h)).1) (hts (.instantiable "ParityArray$Disk" 5) (List.mem_filter.mp tw_54).1)
  obtain ⟨c1, i1, k1⟩ := u_known (C := "ParityArray$Supply") (T := TXS) (N := 7) hts (fun w h => (List.mem_filter.mp (inXS w h)).1) (hts (.instantiable "ParityArray$Supply" 7) (List.mem_filter.mp tw_26).1)
  obtain ⟨c2, i2, k2⟩ := u_known (C := "ParityArray") (T := TXP) (N := 5) hts (fun w h => (List.mem_filter.mp (inXP w h)).1) (hts (.instantiable "ParityArray" 5) (List.mem_filter.mp tw_16).1)
  obtain ⟨c3, i3, k3⟩ := u_known (C := "ParityArrayModel") (T := TXM) (N := 9) hts (fun w h => (List.mem_filter.mp (inXM w h)).1) (hts (.instantiable "ParityArrayModel" 9) (List.mem_filter.mp tw_385).1)
  have hs : ∀ i : Nat, ∃ a : Nat, ∀ q : Nat × String, pz_strs[i]? = some q → vk_R "ParityArray" q.1 q.2 a s := by
    intro i
    cases hq : pz_strs[i]? with
    | none => exact ⟨0, fun q h => by cases h⟩
    | some q =>
      have hm := List.mem_of_getElem? hq
      obtain ⟨a, _, _, _, q1, -⟩ := Cond.exactly_spec (args := #[Value.ref b]) (first := s) (o := none) (s := s) (idx := []) (t := .string "ParityArray" q.1) (cls := "java/lang/String") (hfl _ (pz_strs_ex q hm))
      refine ⟨a, fun z hz => ?_⟩
      cases hz
      exact vk_R.of (hts _ (pz_strs_in q hm)) q1
  obtain ⟨sa, hsa⟩ := Classical.axiomOfChoice hs
  refine ⟨pz_c4 c0 c1 c2 c3, pz_c4 i0 i1 i2 i3, sa, ⟨fun k q hk => ?_, fun k q hk => by cases hk⟩, fun w hw => va_Nw.of (pz_nws_on w hw) (hts w (pz_nws_in w hw)), va_AO.of (hts (.arrayOver (.object "ParityArray$Disk")) (by decide +kernel)), fun i q hq => hsa i q hq, ⟨?_, ?_⟩, va_Nc.of (hfl _ (by decide +kernel)), va_Nc.of (hfl _ (by decide +kernel)), va_Nc.of (hfl _ (by decide +kernel)), va_Nc.of (hfl _ (by decide +kernel))⟩
  · match k, hk with
    | 0, hk => cases hk; exact k0
    | 1, hk => cases hk; exact k1
    | 2, hk => cases hk; exact k2
    | 3, hk => cases hk; exact k3
    | k + 4, hk => cases hk
  · exact vx_Zqof (hts (.laysStatic Bundle.tN "UNASSIGNED_STACK" Bundle.steD) (by decide +kernel)) (hts (.initialized Bundle.tN) (by decide +kernel)) (hfl (.isRef (.static Bundle.tN "UNASSIGNED_STACK" Bundle.steD)) (by decide +kernel)) (fun a h9 => Nat.not_le.mpr h9)
  · exact vx_Zqof (hts (.laysStatic Bundle.tN "SUPPRESSED_SENTINEL" Bundle.listD) (by decide +kernel)) (hts (.initialized Bundle.tN) (by decide +kernel)) (hfl (.isRef (.static Bundle.tN "SUPPRESSED_SENTINEL" Bundle.listD)) (by decide +kernel)) (fun a h9 => Nat.not_le.mpr h9)
