theorem aoa_spec {t : FieldType} {U : State} (h : va_AOA t U) : ∃ (comp c : ClassId) (k : Class), U.vm.findClass (FieldType.array t).toString = some comp ∧ (U.vm.classes.findIdx? fun (x : Class) => match x.kind with | .array component _ => component == comp | _ => false) = some c ∧ U.vm.classes[c]? = some k ∧ (match k.kind with | .array _ ty => decide (ty = FieldType.array t) && decide (U.vm.findClass ("[" ++ (FieldType.array t).toString) = some c) | _ => false) = true := by
  unfold va_AOA Cond.before Cond.holds at h
  simp only [Cond.value, beq_iff_eq] at h
  obtain ⟨comp, h1, h2⟩ := Option.bind_eq_some_iff.mp h
  obtain ⟨c, h3, h4⟩ := Option.bind_eq_some_iff.mp h2
  obtain ⟨k, h5, h6⟩ := Option.map_eq_some_iff.mp h4
  exact ⟨comp, c, k, h1, h3, h5, h6⟩
theorem va_AOA.moved {t : FieldType} {u U : State} (hvm : u.vm.Alike U.vm) (h : va_AOA t u) : va_AOA t U := by
  obtain ⟨comp, c, k, h1, h2, h3, h4⟩ := aoa_spec h
  obtain ⟨k', hk', he⟩ := hvm.2.2 _ _ h3
  have g1 : U.vm.findClass (FieldType.array t).toString = some comp := by rw [hvm.findClass]; exact h1
  have g2 : (U.vm.classes.findIdx? fun (x : Class) => match x.kind with | .array component _ => component == comp | _ => false) = some c := by
    refine (va_idx_bare U.vm comp).symm.trans ?_
    first | rw [hvm.bare_eq] | rw [← hvm.bare_eq]
    exact (va_idx_bare u.vm comp).trans h2
  have g4 : (match k'.kind with | .array _ ty => decide (ty = FieldType.array t) && decide (U.vm.findClass ("[" ++ (FieldType.array t).toString) = some c) | _ => false) = true := by
    rw [show k'.kind = k.kind from by rw [he], hvm.findClass]
    exact h4
  unfold va_AOA Cond.before Cond.holds
  simp only [Cond.value, beq_iff_eq]
  refine Option.bind_eq_some_iff.mpr ⟨comp, g1, Option.bind_eq_some_iff.mpr ⟨c, g2, Option.map_eq_some_iff.mpr ⟨k', hk', g4⟩⟩⟩
/-! contracts that want more of the tables than words: what a state has, and every state that it comes to -/
def NOK (N : State → Prop) : Prop := (∀ s U : State, s.WarmedH U.vm → N s → N U) ∧ ∀ (U : State) (g : JFrame) (mk : MethodId) (a : Array Value), N U → N (U.calling g mk a)
abbrev wPreN (D : va_G) (cl : List vw_C) (tys : List (ClassId × FieldType)) (N : State → Prop) (w : va_W) (sz : Nat) (U : State) : Prop := wPre D cl tys w sz U ∧ N U
theorem r_metN {l : Launch} {y : MethodName} {ws ws' : List Cond} {rm : Room} {cc : ByteArray} {maxL : Nat} {ret : Option FieldType} {D : va_G} {cl : List vw_C} {tys : List (ClassId × FieldType)} {N : State → Prop} {w : va_W} {av : List Value} {mc ms : Nat} {Qc : Nat → Array Value → State → Outcome → State → Prop} (hy : plainName y.cls = true) (hw : ws = Cond.code y cc maxL ret :: ws') (hlen : (lg_sl av).length ≤ maxL)
    (body : ∀ (p : Program) (e : Env) (s : State) (m : MethodId) (args : Array Value) (below : List Frame) (meth : Method) (c : Code) (ls : Array Slot), CallFix p m c cc maxL s args ws y.cls → meth.sig.returnType = ret → meth.locks = false → meth.name = y.name → va_K D cl tys s → N s → (∀ q, s.heap.size ≤ q → va_A w s.heap.size q) → wI D cl (va_A w s.heap.size) s.heap s.heap [] w → lv_has ls maxL (lv_args 0 av) → W p l e rm s m args below meth c s.heap [] 0 0 (MQ below (Qc s.heap.size) args s mc ms (va_A w s.heap.size)) (F0 m 0 ls [])) :
    ∀ sz : Nat, Met l y ws rm (va_Pc av (wPreN D cl tys N w sz)) (Qc sz) mc ms (va_A w sz) := by
  intro sz
  refine Met.ofW (cc := cc) (maxL := maxL) (ret := ret) hy hw ?_
  intro p e s m args below meth c s₁ B hml hv
  obtain ⟨rfl, ⟨hsz, hP, hK, hD0⟩, hN⟩ := hv
  subst hsz
  have hts := atoms_spec (ws := ws) B.pre
  have hown : s.vm.findClass y.cls = some m.cls := findClass_of_methodNamed B.named
  have hl := lv_entry av (n := maxL) hlen
  rw [lg_entry_eq]
  generalize (lg_sl av ++ List.replicate (maxL - (lg_sl av).length) Slot.unset).toArray = ls at hl ⊢
  exact body p e s m _ below meth c ls ⟨B.exec, B.bytes, hml, hown, hts⟩ B.returns B.notSynchronized (name_of_methodNamed B.named B.method).1 hK hN (fun q h => Or.inr h) ⟨hP, hD0.self, va_S.rf⟩ hl
theorem wBlindN {av : List Value} {D : va_G} {cl : List vw_C} {tys : List (ClassId × FieldType)} {N : State → Prop} {w : va_W} {sz : Nat} (hN : NOK N) : FrameBlind (va_Pc av (wPreN D cl tys N w sz)) := fun a U g mk q => by
  obtain ⟨q0, ⟨q1, qP, qK, qD⟩, qN⟩ := q
  exact ⟨q0, ⟨q1, qP, va_K.moved (u := U) (U := U.calling g mk a) (Vm.Alike.refl U.vm) qK, qD⟩, hN.2 U g mk a qN⟩
/-- what the class's constructor and count() want of the tables -/
def gN (U : State) : Prop := va_AO "GardenRules$Rule" U ∧ va_AO "GardenRules$Act" U ∧ va_AOA .int U ∧ va_Nw (.methodLinkNest RX4 35 yX3_init "GardenRules") U ∧ va_Nw (.methodLinkNest RX4 42 yX1_init "GardenRules") U ∧ va_Nw (.fieldLinkNest RX4 147 "GardenRules$Waiting" "size" "I" "GardenRules") U ∧ va_Nw (.fieldLinkNest RX4 150 "GardenRules$Failures" "size" "I" "GardenRules") U
theorem gN_ok : NOK gN := by
  refine ⟨fun s U hW h => ?_, fun U g mk a h => ?_⟩
  · obtain ⟨h1, h2, h3, h4, h5, h6, h7⟩ := h
    exact ⟨h1.moved hW.alike, h2.moved hW.alike, h3.moved hW.alike, va_Nw.warmM hW h4, va_Nw.warmM hW h5, va_Nw.warmF hW h6, va_Nw.warmF hW h7⟩
  · obtain ⟨h1, h2, h3, h4, h5, h6, h7⟩ := h
    exact ⟨h1.moved (u := U) (U := U.calling g mk a) (Vm.Alike.refl U.vm), h2.moved (u := U) (U := U.calling g mk a) (Vm.Alike.refl U.vm), h3.moved (u := U) (U := U.calling g mk a) (Vm.Alike.refl U.vm), va_Nw.same rfl rfl h4, va_Nw.same rfl rfl h5, va_Nw.same rfl rfl h6, va_Nw.same rfl rfl h7⟩
