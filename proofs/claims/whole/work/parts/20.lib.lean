/-! rows of use: a loop, a call's start, a world kept -/
section PZL
variable {p : Program} {l : Launch} {e : Env} {R : Room} {s : State} {m : MethodId} {args : Array Value} {below : List Frame} {meth : Method} {c : Code} {H H1 : Heap} {Q : State → Prop}
theorem pz_loop {pc : Nat} {st : List Value} (cf sf : Nat → Nat) (N : Nat) (I : Nat → Array Slot → Heap → List Loc → Prop)
    (hs : ∀ (k : Nat) (ls : Array Slot) (H : Heap) (locs : List Loc), k < N → I k ls H locs → (∀ (ls' : Array Slot) (H' : Heap) (locs' : List Loc), I (k + 1) ls' H' locs' → W p l e R s m args below meth c H' locs' (cf (k + 1)) (sf (k + 1)) Q (F0 m pc ls' st)) → W p l e R s m args below meth c H locs (cf k) (sf k) Q (F0 m pc ls st))
    (hx : ∀ (ls : Array Slot) (H : Heap) (locs : List Loc), I N ls H locs → W p l e R s m args below meth c H locs (cf N) (sf N) Q (F0 m pc ls st)) :
    ∀ (d k : Nat), k + d = N → ∀ (ls : Array Slot) (H : Heap) (locs : List Loc), I k ls H locs → W p l e R s m args below meth c H locs (cf k) (sf k) Q (F0 m pc ls st) := by
  intro d
  induction d with
  | zero =>
    intro k hk ls H locs h
    obtain rfl : k = N := by omega
    exact hx ls H locs h
  | succ d ih =>
    intro k hk ls H locs h
    exact hs k ls H locs (by omega) h (fun ls' H' locs' h' => ih (k + 1) (by omega) ls' H' locs' h')
theorem pz_preV {C : String} {b : Nat} {As : List Value} {D : va_G} {cl : List vw_C} {ws : va_W} {tys : List (ClassId × FieldType)} (hr : ∃ cellB : Cell, H[b]? = some cellB ∧ cellB.vm.isStatics = false ∧ s.vm.findClass C = some cellB.cls) (hP : va_P D cl ws H) (hK : va_K D cl tys s) :
    PreV s H C b (va_Pc (.ref b :: As) (fun U => va_P D cl ws U.heap ∧ va_K D cl tys U)) As :=
  ⟨fun a U g mk q => ⟨q.1, q.2.1, va_K.moved (u := U) (U := U.calling g mk a) (Vm.Alike.refl U.vm) q.2.2⟩, hr, fun U hU hW => ⟨rfl, by rw [hU]; exact hP, va_K.moved hW.alike hK⟩⟩
theorem pz_preVw {C : String} {b : Nat} {As : List Value} {D : va_G} {cl : List vw_C} {ws : va_W} {A : Nat → Prop} {tys : List (ClassId × FieldType)} (hr : ∃ cellB : Cell, H[b]? = some cellB ∧ cellB.vm.isStatics = false ∧ s.vm.findClass C = some cellB.cls) (hP : va_P D cl ws H) (hK : va_K D cl tys s) (hD : va_D A ws) :
    PreV s H C b (va_Pc (.ref b :: As) (fun U => U.heap.size = H.size ∧ va_P D cl ws U.heap ∧ va_K D cl tys U ∧ va_D (fun _ => True) ws)) As :=
  ⟨fun a U g mk q => ⟨q.1, q.2.1, q.2.2.1, va_K.moved (u := U) (U := U.calling g mk a) (Vm.Alike.refl U.vm) q.2.2.2.1, q.2.2.2.2⟩, hr, fun U hU hW => ⟨rfl, by rw [hU], by rw [hU]; exact hP, va_K.moved hW.alike hK, hD.weaken fun _ _ _ _ => trivial⟩⟩
theorem pz_preS {As : List Value} {D : va_G} {cl : List vw_C} {ws : va_W} {tys : List (ClassId × FieldType)} (hP : va_P D cl ws H) (hK : va_K D cl tys s) :
    PreS s H (va_Pc As (fun U => va_P D cl ws U.heap ∧ va_K D cl tys U)) As :=
  ⟨fun a U g mk q => ⟨q.1, q.2.1, va_K.moved (u := U) (U := U.calling g mk a) (Vm.Alike.refl U.vm) q.2.2⟩, fun U hU hW => ⟨rfl, by rw [hU]; exact hP, va_K.moved hW.alike hK⟩⟩
theorem pz_preSw {As : List Value} {D : va_G} {cl : List vw_C} {ws : va_W} {A : Nat → Prop} {tys : List (ClassId × FieldType)} (hP : va_P D cl ws H) (hK : va_K D cl tys s) (hD : va_D A ws) :
    PreS s H (va_Pc As (fun U => U.heap.size = H.size ∧ va_P D cl ws U.heap ∧ va_K D cl tys U ∧ va_D (fun _ => True) ws)) As :=
  ⟨fun a U g mk q => ⟨q.1, q.2.1, q.2.2.1, va_K.moved (u := U) (U := U.calling g mk a) (Vm.Alike.refl U.vm) q.2.2.2.1, q.2.2.2.2⟩, fun U hU hW => ⟨rfl, by rw [hU], by rw [hU]; exact hP, va_K.moved hW.alike hK, hD.weaken fun _ _ _ _ => trivial⟩⟩
theorem pz_preVwN {C : String} {b : Nat} {As : List Value} {D : va_G} {cl : List vw_C} {ws : va_W} {A : Nat → Prop} {tys : List (ClassId × FieldType)} (hr : ∃ cellB : Cell, H[b]? = some cellB ∧ cellB.vm.isStatics = false ∧ s.vm.findClass C = some cellB.cls) (hP : va_P D cl ws H) (hK : va_K D cl tys s) (hD : va_D A ws) (hN : pz_NW s) :
    PreV s H C b (va_Pc (.ref b :: As) (fun U => U.heap.size = H.size ∧ va_P D cl ws U.heap ∧ va_K D cl tys U ∧ va_D (fun _ => True) ws ∧ pz_NW U)) As :=
  ⟨fun a U g mk q => ⟨q.1, q.2.1, q.2.2.1, va_K.moved (u := U) (U := U.calling g mk a) (Vm.Alike.refl U.vm) q.2.2.2.1, q.2.2.2.2.1, pz_NW.same (u := U) (U := U.calling g mk a) rfl q.2.2.2.2.2⟩, hr, fun U hU hW => ⟨rfl, by rw [hU], by rw [hU]; exact hP, va_K.moved hW.alike hK, hD.weaken (fun _ _ _ _ => trivial), hN.warm hW⟩⟩
theorem pz_sameJ {D : va_G} {cl : List vw_C} {tys : List (ClassId × FieldType)} (hK : va_K D cl tys s) {i j : Nat} {c1 c2 : ClassId} (h1 : tys[i]? = some (c1, .long)) (h2 : tys[j]? = some (c2, .long)) : c1 = c2 := by
  have a := va_nm_long (hK.2 i _ h1).2
  have b := va_nm_long (hK.2 j _ h2).2
  rw [a] at b
  exact Option.some.inj b
theorem pz_preS0 {As : List Value} : PreS s H (va_Pc As (fun _ => True)) As := ⟨fun a U g mk q => q, fun U hU hW => ⟨rfl, trivial⟩⟩
theorem pz_keep {D : va_G} {cl : List vw_C} {ws : va_W} (hP : va_P D cl ws H) (hk : ∀ q : Nat, q < H.size → ¬ False → H1[q]? = H[q]?) : va_P D cl ws H1 := hP.kept fun k q hq => hk q.1 ((hP k q hq).lt) (fun h => h)
end PZL
theorem pz_nar (b : Bool) : narrow .boolean (.int (pz_b b)) = .int (pz_b b) := by cases b <;> rfl
theorem pz_fit (b : Bool) : fits .boolean (.int (pz_b b)) = true := by cases b <;> rfl
theorem pz_b0 {b : Bool} : pz_b b = 0 ↔ b = false := by cases b <;> decide
theorem pz_b1 {b : Bool} : pz_b b = 1 ↔ b = true := by cases b <;> decide
theorem pz_b_inj {a b : Bool} : pz_b a = pz_b b ↔ a = b := by cases a <;> cases b <;> decide
theorem pz_bn {b : Bool} (h : ¬ pz_b b = 0) : b = true := by cases b; exact absurd rfl h; rfl
theorem pz_min {a b : Nat} (ha : a < 2 ^ 31) (hb : b < 2 ^ 31) : (if nI b < nI a then nI b else nI a) = nI (min a b) := by
  by_cases h : b < a
  · rw [if_pos ((nI_ltI hb ha).mpr h), Nat.min_eq_right (by omega)]
  · rw [if_neg (fun h9 => h ((nI_ltI hb ha).mp h9)), Nat.min_eq_left (by omega)]
/-! a row written by arraycopy and one mixed long is pz_wr -/
theorem pz_mask_m : ∀ r, r < 8 → ((-1 : Int64).toUInt64 >>> ((nI (r * 8)).toInt64.toUInt64 &&& Int64.toUInt64 63)).toInt64 = pz_mask r := by decide +kernel
theorem pz_wr_eq0 {f row : Nat → Int64} {s b : Nat} (hb : b ≤ 128) (h : b % 8 = 0) : va_cpy row f 0 (s * 16) (b / 8) = pz_wr f s row b := by
  funext j
  unfold pz_wr va_cpy pz_cut
  by_cases g : 16 * s ≤ j ∧ j < 16 * s + 16
  · rw [if_pos g]
    by_cases g2 : s * 16 ≤ j ∧ j < s * 16 + b / 8
    · rw [if_pos g2, if_pos (by omega), show 0 + (j - s * 16) = j - 16 * s by omega]
    · rw [if_neg g2, if_neg (by omega), if_pos (by omega)]
  · rw [if_neg g, if_neg (by omega)]
theorem pz_wr_eq1 {f row : Nat → Int64} {s b : Nat} (hb : b ≤ 128) (h : 0 < b % 8) : vp_updL (va_cpy row f 0 (s * 16) (b / 8)) (s * 16 + b / 8) ((row (b / 8) &&& (pz_mask (b % 8) ^^^ (-1))) ||| (va_cpy row f 0 (s * 16) (b / 8) (s * 16 + b / 8) &&& pz_mask (b % 8))) = pz_wr f s row b := by
  funext j
  by_cases e : j = s * 16 + b / 8
  · subst e
    rw [pk_uLs]
    unfold pz_wr pz_cut
    rw [if_pos (by omega), if_neg (by omega), if_neg (by omega), pk_cpy_out (by omega), show s * 16 + b / 8 - 16 * s = b / 8 by omega, show b - 8 * (b / 8) = b % 8 by omega]
    rfl
  · rw [pk_uLn e]
    unfold pz_wr va_cpy pz_cut
    by_cases g : 16 * s ≤ j ∧ j < 16 * s + 16
    · rw [if_pos g]
      by_cases g2 : s * 16 ≤ j ∧ j < s * 16 + b / 8
      · rw [if_pos g2, if_pos (by omega), show 0 + (j - s * 16) = j - 16 * s by omega]
      · rw [if_neg g2, if_neg (by omega), if_pos (by omega)]
    · rw [if_neg g, if_neg (by omega)]
