section NW2
variable {p : Program} {l : Launch} {e : Env} {R : Room} {s : State} {m : MethodId} {args : Array Value} {below : List Frame} {meth : Method} {c : Code} {H : Heap} {locs : List Loc} {cells slots : Nat} {Q : State → Prop} {cc : ByteArray} {nL : Nat} {Ts : List Cond} {own : String} {D : va_G} {cl : List vw_C} {tys : List (ClassId × FieldType)} {A : Nat → Prop} {w v : va_W} {pc : Nat} {ls : Array Slot} {rest st0 : List Value}
theorem r_newq (S : CallFix p m c cc nL s args Ts own) (hK : va_K D cl tys s) (hA : ∀ q, s.heap.size ≤ q → A q) (hG : wI D cl A s.heap H locs w) (t0 : Nat) {cA : ClassId} {C : String} (ht : tys[t0]? = some (cA, .object C)) {index : Nat} (hlk : Cond.classLink own index C ∈ Ts) (hov : va_AO C s) {n : Int32} {N : Nat} (hn : ¬ n < 0) (hN : n.toNatClampNeg = N) (hbytes : N * 4 ≤ 536870912) (hcells : cells + 1 ≤ R.cells) (hslots : slots + N ≤ R.slots) (hdg : decode cc pc = .ok (.anewarray index, 3))
    (kk : ∀ (q : Nat) (H1 : Heap), wI D cl A s.heap H1 locs (w ++ [(q, .inl (cA, N, .inr (.inr (.inr (.inr (fun _ => none))))))]) → W p l e R s m args below meth c H1 locs (cells + 1) (slots + N) Q (F0 m (pc + 3) ls (.ref q :: rest))) : W p l e R s m args below meth c H locs cells slots Q (F0 m pc ls (.int n :: rest)) := by
  refine va_newq (C := C) S.1 S.2.1 S.2.2.2.1 (S.2.2.2.2 _ hlk) hov hK hG.1 hG.2.1 hG.2.2 hA hn hN hbytes hcells hslots hdg (fun q c1 H1 hK1 h1 h2 h3 => ?_)
  obtain ⟨-, -, -, -, -, e1⟩ := (hK1.2 tys.length (c1, .object C) (by rw [List.getElem?_append_right (Nat.le_refl _), Nat.sub_self]; rfl)).2
  obtain ⟨-, -, -, -, -, e2⟩ := (hK.2 t0 (cA, .object C) ht).2
  have e3 : c1 = cA := Option.some.inj (e1.symm.trans e2)
  subst e3
  exact kk q H1 ⟨h1, h2, h3⟩
/-- new int[n][k]: the outer array, and n rows -/
theorem r_mna (S : CallFix p m c cc nL s args Ts own) (hK : va_K D cl tys s) (hA : ∀ q, s.heap.size ≤ q → A q) (hG : wI D cl A s.heap H locs w) (t0 t1 : Nat) {cI cA : ClassId} (ht0 : tys[t0]? = some (cI, .int)) (ht1 : tys[t1]? = some (cA, .array .int)) {index : Nat} (hlk : Cond.classLink own index ("[" ++ (FieldType.array .int).toString) ∈ Ts) (hov : va_AOA .int s) (harr : Cond.arrayClass .int ∈ Ts) {n k : Int32} {N K : Nat} (hn : ¬ n < 0) (hk : ¬ k < 0) (hN : n.toNatClampNeg = N) (hM : k.toNatClampNeg = K) (hb1 : N * 4 ≤ 536870912) (hb2 : K * componentBytes .int ≤ 536870912) (hb3 : K ≤ 536870912) (hcells : cells + (1 + N) ≤ R.cells) (hslots : slots + (N + N * K) ≤ R.slots) (hdg : decode cc pc = .ok (.multianewarray index 2, 4))
    (kk : ∀ (q : Nat) (r : Nat → Nat) (H1 : Heap), wI D cl A s.heap H1 locs ((w ++ [(q, .inl (cA, N, .inr (.inr (.inr (.inr (fun i => if i < N then some (r i) else none))))))]) ++ (List.range N).map (fun i => (r i, .inl (cI, K, .inl (fun _ => 0))))) → W p l e R s m args below meth c H1 locs (cells + 1 + N) (slots + N + N * K) Q (F0 m (pc + 4) ls (.ref q :: rest))) : W p l e R s m args below meth c H locs cells slots Q (F0 m pc ls (.int k :: .int n :: rest)) := by
  have e2 : s.vm.findClass (FieldType.array .int).toString = some cI := (hK.2 t0 (cI, .int) ht0).2
  have e5 : s.vm.findClass ("[" ++ (FieldType.array .int).toString) = some cA := (hK.2 t1 (cA, .array .int) ht1).2
  refine va_mna (X := w) (L := []) (f := fun _ => .inr (0, [])) (ty := .int) (cy := cI) (z := (K, .inl (fun _ => 0))) S.1 S.2.1 S.2.2.2.1 (S.2.2.2.2 _ hlk) hov (S.2.2.2.2 _ harr) e2 hK (by rw [show va_pl [] (fun _ => (.inr (0, []) : va_E)) = [] from rfl, List.append_nil]; exact hG.1) (by rw [show va_pl [] (fun _ => (.inr (0, []) : va_E)) = [] from rfl, List.append_nil]; exact hG.2.1) hG.2.2 hA hn hk hN hM hb1 hb2 hb3 rfl rfl hcells hslots (fun c => ?_) hdg (fun q r c1 H1 hinj _ hK1 h1 h2 h3 => ?_)
  · rw [vp_cell_i]
    show ({ cls := c, slots := Array.replicate K (.int 0), vm := .none } : Cell) = _
    first | exact arrV_new c K (.int 0) | rfl
  · have e1 : s.vm.findClass ("[" ++ (FieldType.array .int).toString) = some c1 := (hK1.2 tys.length (c1, .array .int) (by rw [List.getElem?_append_right (Nat.le_refl _), Nat.sub_self]; rfl)).2
    have e3 : c1 = cA := Option.some.inj (e1.symm.trans e5)
    subst e3
    have ep : va_pl ([] ++ (List.range N).map r) (vr_up (fun _ => (.inr (0, []) : va_E)) ((List.range N).map r) (.inl (cI, (K, .inl (fun _ => 0))))) = (List.range N).map (fun i => (r i, .inl (cI, K, .inl (fun _ => 0)))) := by
      unfold va_pl
      rw [List.nil_append, List.map_map]
      refine List.map_congr_left (fun i hi => ?_)
      show (r i, _) = (r i, _)
      rw [vr_up_in (List.mem_map.mpr ⟨i, hi, rfl⟩)]
    rw [ep] at h1 h2
    exact kk q r H1 ⟨h1, h2, h3⟩
theorem r_callIvN {T : Type} {y : MethodName} {bytes : ByteArray} {maxL n index : Nat} {ws : List Cond} {rm : Room} {host : String} {b : Addr} {As : List Value} {F : T → Prop} {w1 : T → va_W} (S : CallFix p m c cc nL s args Ts own) (hK : va_K D cl tys s) (hA : ∀ q, s.heap.size ≤ q → A q) (hG : wI D cl A s.heap H locs (v ++ w)) (hM : CMv l y ws rm D cl tys w (.ref b :: As) F w1) (cw : va_CN R s args own index y host bytes maxL none ws rm rm.cells rm.slots n ∧ y.name = "<init>" ∧ (Cond.instanceMethod y).before args s = true)
    (hn : As.length = n) (hsz : ls.size = nL) (hst : st0 = As.reverse ++ .ref b :: rest) (hW : (rest.map fun v => v.category).sum ≤ 8) (hdg : decode cc pc = .ok (.invokespecial index, 3)) (hf : cells + rm.cells ≤ R.cells ∧ slots + rm.slots ≤ R.slots)
    (kk : ∀ (u : T) (H1 : Heap) (locs1 : List Loc), F u → wI D cl A s.heap H1 locs1 (v ++ w1 u) → W p l e R s m args below meth c H1 locs1 (cells + rm.cells) (slots + rm.slots) Q (F0 m (pc + 3) ls rest)) : W p l e R s m args below meth c H locs cells slots Q (F0 m pc ls st0) := by
  have hG0 := wI_swap hG
  have hG1 := wI_app1 hG0
  have hs := wA_sub hA hG1
  refine va_callv (va_runIN S (hM H.size) cw ⟨wBlind, wGo hK hG1⟩ rfl hn hsz hst (lv_room hW) hdg hf) hG.2.2 (fun q _ h => hs q h) hs (fun u t H1 locs1 ht _ hw hB _ hk hS => ?_)
  obtain ⟨hP1, hD1⟩ := hB
  rw [ht] at hP1
  exact kk u H1 locs1 hw (wI_swap (wI_join hA hG0 hk hP1 hD1 hS))
theorem r_callSvF {T : Type} {y : MethodName} {bytes : ByteArray} {maxL n index : Nat} {ret : Option FieldType} {ws : List Cond} {rm : Room} {As : List Value} {F : T → Prop} {w1 : T → va_W} (S : CallFix p m c cc nL s args Ts own) (hK : va_K D cl tys s) (hA : ∀ q, s.heap.size ≤ q → A q) (hG : wI D cl A s.heap H locs (w ++ v)) (hM : CMv l y ws rm D cl tys w As F w1) (cw : CallB R s args own index y bytes maxL ret ws rm rm.cells rm.slots n ∧ (Cond.static y).before args s = true)
    (hn : As.length = n) (hsz : ls.size = nL) (hst : st0 = As.reverse ++ rest) (hW : (rest.map fun v => v.category).sum ≤ 8) (hdg : decode cc pc = .ok (.invokestatic index, 3)) (hf : cells + rm.cells ≤ R.cells ∧ slots + rm.slots ≤ R.slots)
    (kk : ∀ (u : T) (H1 : Heap) (locs1 : List Loc), F u → wI D cl A s.heap H1 locs1 (w1 u ++ v) → W p l e R s m args below meth c H1 locs1 (cells + rm.cells) (slots + rm.slots) Q (F0 m (pc + 3) ls rest)) : W p l e R s m args below meth c H locs cells slots Q (F0 m pc ls st0) := by
  have hG1 := wI_app1 hG
  have hs := wA_sub hA hG1
  refine va_callv (va_runS S (hM H.size) cw ⟨wBlind, wGo hK hG1⟩ rfl hn hsz hst (lv_room hW) hdg hf) hG.2.2 (fun q _ h => hs q h) hs (fun u t H1 locs1 ht _ hw hB _ hk hS => ?_)
  obtain ⟨hP1, hD1⟩ := hB
  rw [ht] at hP1
  exact kk u H1 locs1 hw (wI_join hA hG hk hP1 hD1 hS)
end NW2
