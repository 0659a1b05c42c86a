/-! calls whose callee's world is a part of the caller's; constructors -/
section RW2
variable {p : Program} {l : Launch} {e : Env} {R : Room} {s : State} {m : MethodId} {args : Array Value} {below : List Frame} {meth : Method} {c : Code} {H : Heap} {locs : List Loc} {cells slots : Nat} {Q : State → Prop} {cc : ByteArray} {nL : Nat} {Ts : List Cond} {own : String} {D : va_G} {cl : List vw_C} {tys : List (ClassId × FieldType)} {A : Nat → Prop} {w v w' : va_W} {pc : Nat} {ls : Array Slot} {rest st0 : List Value} {a : Nat}
theorem r_callViF {T : Type} {y : MethodName} {bytes : ByteArray} {maxL n index : Nat} {ret : Option FieldType} {ws : List Cond} {rm : Room} {C : String} {b : Addr} {As : List Value} {F : Int32 → T → Prop} {w1 : T → va_W} (S : CallFix p m c cc nL s args Ts own) (hK : va_K D cl tys s) (hA : ∀ q, s.heap.size ≤ q → A q) (hG : wI D cl A s.heap H locs (w ++ v)) (hM : CMi l y ws rm D cl tys w (.ref b :: As) F w1) (cw : CallW R s args own C index y bytes maxL ret ws rm rm.cells rm.slots n)
    (hrc : ∃ cell : Cell, H[b]? = some cell ∧ cell.vm.isStatics = false ∧ s.vm.findClass C = some cell.cls) (hn : As.length = n) (hsz : ls.size = nL) (hst : st0 = As.reverse ++ .ref b :: rest) (hW : (rest.map fun v => v.category).sum ≤ 8) (hdg : decode cc pc = .ok (.invokevirtual index, 3)) (hf : cells + rm.cells ≤ R.cells ∧ slots + rm.slots ≤ R.slots)
    (kk : ∀ (r : Int32) (u : T) (H1 : Heap) (locs1 : List Loc), F r u → wI D cl A s.heap H1 locs1 (w1 u ++ v) → W p l e R s m args below meth c H1 locs1 (cells + rm.cells) (slots + rm.slots) Q (F0 m (pc + 3) ls (.int r :: rest))) : W p l e R s m args below meth c H locs cells slots Q (F0 m pc ls st0) := by
  have hG1 := wI_app1 hG
  have hs := wA_sub hA hG1
  refine va_calli (va_runV S (hM H.size) cw ⟨wBlind, hrc, wGo hK hG1⟩ rfl hn hsz hst (lv_room hW) hdg hf) hG.2.2 (fun q _ h => hs q h) hs (fun r u t H1 locs1 ht _ hw hB _ hk hS => ?_)
  obtain ⟨hP1, hD1⟩ := hB
  rw [ht] at hP1
  exact kk r u H1 locs1 hw (wI_join hA hG hk hP1 hD1 hS)
theorem r_callIvF {T : Type} {y : MethodName} {bytes : ByteArray} {maxL n index : Nat} {ws : List Cond} {rm : Room} {b : Addr} {As : List Value} {F : T → Prop} {w1 : T → va_W} (S : CallFix p m c cc nL s args Ts own) (hK : va_K D cl tys s) (hA : ∀ q, s.heap.size ≤ q → A q) (hG : wI D cl A s.heap H locs (v ++ w)) (hM : CMv l y ws rm D cl tys w (.ref b :: As) F w1) (cw : CallB R s args own index y bytes maxL none ws rm rm.cells rm.slots n ∧ y.name = "<init>" ∧ (Cond.instanceMethod y).before args s = true)
    (hn : As.length = n) (hsz : ls.size = nL) (hst : st0 = As.reverse ++ .ref b :: rest) (hW : (rest.map fun v => v.category).sum ≤ 8) (hdg : decode cc pc = .ok (.invokespecial index, 3)) (hf : cells + rm.cells ≤ R.cells ∧ slots + rm.slots ≤ R.slots)
    (kk : ∀ (u : T) (H1 : Heap) (locs1 : List Loc), F u → wI D cl A s.heap H1 locs1 (v ++ w1 u) → W p l e R s m args below meth c H1 locs1 (cells + rm.cells) (slots + rm.slots) Q (F0 m (pc + 3) ls rest)) : W p l e R s m args below meth c H locs cells slots Q (F0 m pc ls st0) := by
  have hG0 := wI_swap hG
  have hG1 := wI_app1 hG0
  have hs := wA_sub hA hG1
  refine va_callv (va_runI S (hM H.size) cw ⟨wBlind, wGo hK hG1⟩ rfl hn hsz hst (lv_room hW) hdg hf) hG.2.2 (fun q _ h => hs q h) hs (fun u t H1 locs1 ht _ hw hB _ hk hS => ?_)
  obtain ⟨hP1, hD1⟩ := hB
  rw [ht] at hP1
  exact kk u H1 locs1 hw (wI_swap (wI_join hA hG0 hk hP1 hD1 hS))
theorem r_putF (S : CallFix p m c cc nL s args Ts own) (hK : va_K D cl tys s) (hG : wI D cl A s.heap H locs w) {C : String} {T : u_T} {N ci index : Nat} (hin : ∀ w ∈ u_ws C T N, w ∈ Ts) (ty0 : Nat → FieldType) (hty : ∀ k, k < N → parseFieldDescriptor (T k).2.2.1 = some (ty0 k)) (hnm : ∀ a, a < N → ∀ b, b < N → a ≠ b → (T a).2.1 ≠ (T b).2.1) (q0 : Nat) {fs : List Value} (he : w[q0]? = some (a, .inr (ci, fs))) (hc : cl[ci]? = some (C, T, N)) (k : Nat) (hk : k < N) (hl : Cond.fieldLink own index (T k).1 (T k).2.1 (T k).2.2.1 ∈ Ts) (hfin : (T k).2.2.2 = true) (hinit : meth.name = "<init>") (hdecl : (T k).1 = own) {v : Value} (hn : narrow (ty0 k) v = v) (hfit : fits (ty0 k) v = true) (hlen : k < fs.length) (hw : w.set q0 (a, .inr (ci, fs.set k v)) = w') (hdg : decode cc pc = .ok (.putfield index, 3))
    (kk : ∀ (H1 : Heap) (locs1 : List Loc), wI D cl A s.heap H1 locs1 w' → W p l e R s m args below meth c H1 locs1 cells slots Q (F0 m (pc + 3) ls rest)) : W p l e R s m args below meth c H locs cells slots Q (F0 m pc ls (v :: .ref a :: rest)) :=
  va_putF S.1 S.2.1 S.2.2.2.2 hin ty0 hty hnm S.2.2.2.1 hK hG.1 hG.2.1 hG.2.2 q0 he hc k hk (S.2.2.2.2 _ hl) (fun _ h => h) hfin hinit hdecl (hty k hk) hn hfit hlen hdg (fun H1 locs1 h1 h2 h3 => kk H1 locs1 (by subst hw; exact ⟨h1, h2, h3⟩))
theorem r_new (S : CallFix p m c cc nL s args Ts own) (hK : va_K D cl tys s) (hA : ∀ q, s.heap.size ≤ q → A q) (hG : wI D cl A s.heap H locs w) {C : String} {T : u_T} {N ci index : Nat} (hin : ∀ w ∈ u_ws C T N, w ∈ Ts) (ty : Nat → FieldType) (hty : ∀ k, k < N → parseFieldDescriptor (T k).2.2.1 = some (ty k)) (h1 : Cond.classLink own index C ∈ Ts) (h2 : Cond.instantiable C N ∈ Ts) (h3 : Cond.initialized C ∈ Ts) (hc : cl[ci]? = some (C, T, N)) {fs : List Value} (hfs : ∀ j, j < N → defaultValue (ty j) = vp_V fs j) (hcells : cells + 1 ≤ R.cells) (hslots : slots + N ≤ R.slots) (hdg : decode cc pc = .ok (.new index, 3))
    (kk : ∀ (q : Nat) (H1 : Heap), wI D cl A s.heap H1 locs (w ++ [(q, .inr (ci, fs))]) → W p l e R s m args below meth c H1 locs (cells + 1) (slots + N) Q (F0 m (pc + 3) ls (.ref q :: rest))) : W p l e R s m args below meth c H locs cells slots Q (F0 m pc ls rest) :=
  va_new S.1 S.2.1 S.2.2.2.2 hin ty hty S.2.2.2.1 (S.2.2.2.2 _ h1) (S.2.2.2.2 _ h2) (S.2.2.2.2 _ h3) hK hG.1 hG.2.1 hG.2.2 hA hc hfs hcells hslots hdg (fun q H1 a1 a2 a3 => kk q H1 ⟨a1, a2, a3⟩)
end RW2
/-- the order of a world's cells doesn't matter -/
theorem wD_iff {A : Nat → Prop} {w : va_W} : va_D A w ↔ (w.map Prod.fst).Nodup ∧ ∀ q ∈ w, A q.1 := by
  constructor
  · intro h
    refine ⟨List.pairwise_iff_getElem.mpr ?_, fun q hq => ?_⟩
    · intro i j hi hj hij he
      rw [List.length_map] at hi hj
      have := h.1 i j w[i] w[j] (List.getElem?_eq_getElem hi) (List.getElem?_eq_getElem hj) (by simpa using he)
      omega
    · obtain ⟨k, hk⟩ := List.getElem?_of_mem hq
      exact h.2 k q hk
  · intro h
    have key : ∀ (i j : Nat) (p q : Nat × va_E), i < j → w[i]? = some p → w[j]? = some q → p.1 = q.1 → False := by
      intro i j p q hij hi hj he
      obtain ⟨h1, e1⟩ := List.getElem?_eq_some_iff.mp hi
      obtain ⟨h2, e2⟩ := List.getElem?_eq_some_iff.mp hj
      refine List.pairwise_iff_getElem.mp h.1 i j (by simpa using h1) (by simpa using h2) hij ?_
      simp [e1, e2, he]
    refine ⟨fun i j p q hi hj he => ?_, fun k q hk => h.2 q (List.mem_of_getElem? hk)⟩
    rcases Nat.lt_trichotomy i j with z | z | z
    · exact (key i j p q z hi hj he).elim
    · exact z
    · exact (key j i q p z hj hi he.symm).elim
theorem wI_perm {D : va_G} {cl : List vw_C} {A : Nat → Prop} {H0 H : Heap} {locs : List Loc} {w v : va_W} (hp : w.Perm v) (hG : wI D cl A H0 H locs w) : wI D cl A H0 H locs v := by
  refine ⟨fun k q hk => ?_, wD_iff.mpr ⟨?_, fun q hq => ?_⟩, hG.2.2⟩
  · obtain ⟨j, hj⟩ := List.getElem?_of_mem (hp.mem_iff.mpr (List.mem_of_getElem? hk))
    exact hG.1 j q hj
  · exact ((hp.map Prod.fst).nodup_iff).mp (wD_iff.mp hG.2.1).1
  · exact (wD_iff.mp hG.2.1).2 q (hp.mem_iff.mpr hq)
