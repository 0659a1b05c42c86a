/-! the law: what its calls want -/
section LW1
variable {p : Program} {l : Launch} {e : Env} {R : Room} {s : State} {m : MethodId} {args : Array Value} {below : List Frame} {meth : Method} {c : Code} {H : Heap} {locs : List Loc} {cells slots : Nat} {Q : State → Prop} {cc : ByteArray} {nL : Nat} {Ts : List Cond} {own : String} {D : va_G} {cl : List vw_C} {tys : List (ClassId × FieldType)} {A : Nat → Prop} {w v : va_W} {pc : Nat} {ls : Array Slot} {rest st0 : List Value}
theorem r_callViS {T : Type} {y : MethodName} {bytes : ByteArray} {maxL n index : Nat} {ret : Option FieldType} {ws : List Cond} {rm : Room} {C : String} {b : Addr} {As : List Value} {F : Int32 → T → Prop} {w1 : T → va_W} (S : CallFix p m c cc nL s args Ts own) (hK : va_K D cl tys s) (hA : ∀ q, s.heap.size ≤ q → A q) (hG : wI D cl A s.heap H locs (v ++ w)) (hM : CMi l y ws rm D cl tys w (.ref b :: As) F w1) (cw : CallW R s args own C index y bytes maxL ret ws rm rm.cells rm.slots n)
    (hrc : ∃ cell : Cell, H[b]? = some cell ∧ cell.vm.isStatics = false ∧ s.vm.findClass C = some cell.cls) (hn : As.length = n) (hsz : ls.size = nL) (hst : st0 = As.reverse ++ .ref b :: rest) (hW : (rest.map fun v => v.category).sum ≤ 8) (hdg : decode cc pc = .ok (.invokevirtual index, 3)) (hf : cells + rm.cells ≤ R.cells ∧ slots + rm.slots ≤ R.slots)
    (kk : ∀ (r : Int32) (u : T) (H1 : Heap) (locs1 : List Loc), F r u → wI D cl A s.heap H1 locs1 (v ++ w1 u) → W p l e R s m args below meth c H1 locs1 (cells + rm.cells) (slots + rm.slots) Q (F0 m (pc + 3) ls (.int r :: rest))) : W p l e R s m args below meth c H locs cells slots Q (F0 m pc ls st0) :=
  r_callViF S hK hA (wI_swap hG) hM cw hrc hn hsz hst hW hdg hf (fun r u H1 locs1 hw hG1 => kk r u H1 locs1 hw (wI_swap hG1))
theorem r_callViN {T : Type} {y : MethodName} {bytes : ByteArray} {maxL n index : Nat} {ret : Option FieldType} {ws : List Cond} {rm : Room} {C : String} {b : Addr} {As : List Value} {N : State → Prop} {F : Int32 → T → Prop} {w1 : T → va_W} (hNO : NOK N) (hN : N s) (S : CallFix p m c cc nL s args Ts own) (hK : va_K D cl tys s) (hA : ∀ q, s.heap.size ≤ q → A q) (hG : wI D cl A s.heap H locs (w ++ v)) (hM : ∀ sz : Nat, Met l y ws rm (va_Pc (.ref b :: As) (wPreN D cl tys N w sz)) (va_Qi F (fun u t => wPost D cl w sz (w1 u) t) (va_A w sz)) rm.cells rm.slots (va_A w sz)) (cw : CallW R s args own C index y bytes maxL ret ws rm rm.cells rm.slots n)
    (hrc : ∃ cell : Cell, H[b]? = some cell ∧ cell.vm.isStatics = false ∧ s.vm.findClass C = some cell.cls) (hn : As.length = n) (hsz : ls.size = nL) (hst : st0 = As.reverse ++ .ref b :: rest) (hW : (rest.map fun v => v.category).sum ≤ 8) (hdg : decode cc pc = .ok (.invokevirtual index, 3)) (hf : cells + rm.cells ≤ R.cells ∧ slots + rm.slots ≤ R.slots)
    (kk : ∀ (r : Int32) (u : T) (H1 : Heap) (locs1 : List Loc), F r u → wI D cl A s.heap H1 locs1 (w1 u ++ v) → W p l e R s m args below meth c H1 locs1 (cells + rm.cells) (slots + rm.slots) Q (F0 m (pc + 3) ls (.int r :: rest))) : W p l e R s m args below meth c H locs cells slots Q (F0 m pc ls st0) := by
  have hG1 := wI_app1 hG
  have hs := wA_sub hA hG1
  refine va_calli (va_runV S (hM H.size) cw ⟨wBlindN hNO, hrc, fun U hU hW => ⟨rfl, (wGo (av := .ref b :: As) hK hG1 U hU hW).2, hNO.1 s U hW hN⟩⟩ rfl hn hsz hst (lv_room hW) hdg hf) hG.2.2 (fun q _ h => hs q h) hs (fun r u t H1 locs1 ht _ hw hB _ hk hS => ?_)
  obtain ⟨hP1, hD1⟩ := hB
  rw [ht] at hP1
  exact kk r u H1 locs1 hw (wI_join hA hG hk hP1 hD1 hS)
theorem r_callIN {T : Type} {y : MethodName} {bytes : ByteArray} {maxL n index : Nat} {ws : List Cond} {rm : Room} {b : Addr} {As : List Value} {N : State → Prop} {F : T → Prop} {w1 : T → va_W} (hNO : NOK N) (hN : N s) (S : CallFix p m c cc nL s args Ts own) (hK : va_K D cl tys s) (hA : ∀ q, s.heap.size ≤ q → A q) (hG : wI D cl A s.heap H locs w) (hM : ∀ sz : Nat, Met l y ws rm (va_Pc (.ref b :: As) (wPreN D cl tys N w sz)) (va_Qv F (fun u t => wPost D cl w sz (w1 u) t) (va_A w sz)) rm.cells rm.slots (va_A w sz)) (cw : CallB R s args own index y bytes maxL none ws rm rm.cells rm.slots n ∧ y.name = "<init>" ∧ (Cond.instanceMethod y).before args s = true)
    (hn : As.length = n) (hsz : ls.size = nL) (hst : st0 = As.reverse ++ .ref b :: rest) (hW : (rest.map fun v => v.category).sum ≤ 8) (hdg : decode cc pc = .ok (.invokespecial index, 3)) (hf : cells + rm.cells ≤ R.cells ∧ slots + rm.slots ≤ R.slots)
    (kk : ∀ (u : T) (H1 : Heap) (locs1 : List Loc), F u → wI D cl A s.heap H1 locs1 (w1 u) → W p l e R s m args below meth c H1 locs1 (cells + rm.cells) (slots + rm.slots) Q (F0 m (pc + 3) ls rest)) : W p l e R s m args below meth c H locs cells slots Q (F0 m pc ls st0) := by
  have hs := wA_sub hA hG
  refine va_callv (va_runI S (hM H.size) cw ⟨wBlindN hNO, fun U hU hW => ⟨rfl, (wGo (av := .ref b :: As) hK hG U hU hW).2, hNO.1 s U hW hN⟩⟩ rfl hn hsz hst (lv_room hW) hdg hf) hG.2.2 (fun q _ h => hs q h) hs (fun u t H1 locs1 ht _ hw hB _ hk hS => ?_)
  obtain ⟨hP1, hD1⟩ := hB
  rw [ht] at hP1
  exact kk u H1 locs1 hw (wBack hP1 hD1 hs hS)
end LW1
theorem law_in {k L : Nat} (h : 5 * k + 5 ≤ L) (hL : L ≤ 2560) {i x : Int32} (j : Nat) (hj : j ≤ 4) (ei : i = nI (5 * k)) (ex : x = nI j) : vp_in (i + x) L := by
  rw [ei, ex, nI_add]
  exact vp_in_nI (by omega) (by omega)
theorem law_in0 {k L : Nat} (h : 5 * k + 5 ≤ L) (hL : L ≤ 2560) {i : Int32} (ei : i = nI (5 * k)) : vp_in i L := by
  rw [ei]
  exact vp_in_nI (by omega) (by omega)
/-- the sensors of both sides are the same -/
theorem sen_eq (x : Int32) : f_X4_isSensor x = f_X5_isSensor x := by
  unfold f_X4_isSensor f_X5_isSensor f_X5_in
  by_cases h1 : x < 0
  · rw [if_pos h1, if_pos h1]
  · rw [if_neg h1, if_neg h1]
    by_cases h2 : 8 ≤ x
    · rw [if_pos h2, if_pos (by rw [Int32.lt_iff_toInt_lt]; rw [Int32.le_iff_toInt_le] at h2; exact Int.lt_of_lt_of_le (by decide) h2)]
    · rw [if_neg h2, if_neg (by rw [Int32.lt_iff_toInt_lt]; rw [Int32.le_iff_toInt_le] at h2; intro q; exact h2 (by have : (7 : Int32).toInt = 7 := rfl; have : (8 : Int32).toInt = 8 := rfl; omega))]
theorem wy_show {σ u : Mem} {r : Int32} (s v : Int32) (e : (r, u) = f_X4_show σ s v) : u 0 15 = if bI (f_X5_isSensor s) = 0 then -2 else 0 := by
  have h : (f_X4_show σ s v).2 0 15 = if bI (f_X5_isSensor s) = 0 then -2 else 0 := by
    rw [← sen_eq]
    unfold f_X4_show
    by_cases c : bI (f_X4_isSensor s) = 0
    · rw [if_pos c, if_pos c]
      exact bnd_i (P := fun p : Int32 × Mem => p.2 0 15 = -2) (fun z ez => by rw [ez]; rfl)
    · rw [if_neg c, if_neg c]
      refine bnd_i (P := fun p : Int32 × Mem => p.2 0 15 = 0) (fun z ez => ?_)
      refine bnd_i (P := fun p : Int32 × Mem => p.2 0 15 = 0) (fun x _ => ?_)
      exact bnd_i (P := fun p : Int32 × Mem => p.2 0 15 = 0) (fun y ey => by rw [ey, ez]; rfl)
  rw [← h, ← e]
theorem wy_shown {σ u : Mem} {r : Int32} (s : Int32) (e : (r, u) = f_X4_shown σ s) : u 0 15 = if bI (f_X5_isSensor s) = 0 then -2 else 0 := by
  have h : (f_X4_shown σ s).2 0 15 = if bI (f_X5_isSensor s) = 0 then -2 else 0 := by
    rw [← sen_eq]
    unfold f_X4_shown
    by_cases c : bI (f_X4_isSensor s) = 0
    · rw [if_pos c, if_pos c]
      exact bnd_i (P := fun p : Int32 × Mem => p.2 0 15 = -2) (fun z ez => by rw [ez]; rfl)
    · rw [if_neg c, if_neg c]
      exact bnd_i (P := fun p : Int32 × Mem => p.2 0 15 = 0) (fun z ez => by rw [ez]; rfl)
  rw [← h, ← e]
