section
/-! MEMORIES: a system's state is a matrix of ints: row r, place k; row 0 its main object's fields, the other rows its arrays and parts -/
abbrev Mem : Type := Nat → Nat → Int32
def mset (σ : Mem) (r k : Nat) (x : Int32) : Mem := va_up σ r (upd (σ r) k x)
def mrow (σ : Mem) (r : Nat) (f : Nat → Int32) : Mem := va_up σ r f
theorem mset_rr (σ : Mem) (r k : Nat) (x : Int32) : mset σ r k x r = upd (σ r) k x := va_up_self _ _ _
theorem mset_ne (σ : Mem) {r q : Nat} (k : Nat) (x : Int32) (h : q ≠ r) : mset σ r k x q = σ q := va_up_ne _ _ h
theorem mset_s (σ : Mem) (r k : Nat) (x : Int32) : mset σ r k x r k = x := by rw [mset_rr]; exact pk_us
theorem mset_n (σ : Mem) (r : Nat) {k j : Nat} (x : Int32) (h : j ≠ k) : mset σ r k x r j = σ r j := by rw [mset_rr]; exact pk_un h
def bnd {α β : Type} (v : α) (F : α → β) : β := F v
def bnd2 {α β γ : Type} (v : α × β) (F : α → β → γ) : γ := F v.1 v.2
theorem bnd_p {α β : Type} {v x : α} {F : α → β} {X : β} (e : x = v) (h : bnd v F = X) : F x = X := by subst e; exact h
theorem bnd2_p {α β γ : Type} {v : α × β} {a : α} {b : β} {F : α → β → γ} {X : γ} (e : (a, b) = v) (h : bnd2 v F = X) : F a b = X := by subst e; exact h
theorem sw_ne {x k : Int32} {z : Int} (hz : k.toInt = z) (h : ¬ x = k) : ¬ x.toInt = z := fun e => h (Int32.toInt_inj.mp (e.trans hz.symm))
theorem vp_lit {x : Int32} {n : Nat} (h : 0 ≤ x.toInt ∧ x.toInt < n) : vp_in x n := vp_in_iff.mpr h
theorem ite_p {α : Type} {c : Prop} [h : Decidable c] {a b x : α} (hc : c) (e : (if c then a else b) = x) : a = x := by rw [if_pos hc] at e; exact e
theorem ite_n {α : Type} {c : Prop} [h : Decidable c] {a b x : α} (hc : ¬ c) (e : (if c then a else b) = x) : b = x := by rw [if_neg hc] at e; exact e
def bI (b : Bool) : Int32 := match b with
  | true => 1
  | false => 0
theorem bI_nar (b : Bool) : narrow .boolean (.int (bI b)) = .int (bI b) := by cases b <;> rfl
theorem bI_0 {b : Bool} : bI b = 0 ↔ b = false := by cases b <;> decide
theorem bI_f {b : Bool} (h : bI b = 0) : b = false := bI_0.mp h
theorem bI_t {b : Bool} (h : ¬ bI b = 0) : b = true := by cases b with
  | true => rfl
  | false => exact absurd rfl h
/-- the world: its cells, apart, and what has changed since the start lies in A -/
def wI (D : va_G) (cl : List vw_C) (A : Nat → Prop) (H0 H : Heap) (locs : List Loc) (w : va_W) : Prop := va_P D cl w H ∧ va_D A w ∧ va_S A H0 H locs
abbrev wPre (D : va_G) (cl : List vw_C) (tys : List (ClassId × FieldType)) (w : va_W) (sz : Nat) (U : State) : Prop := U.heap.size = sz ∧ va_P D cl w U.heap ∧ va_K D cl tys U ∧ va_D (fun _ => True) w
abbrev wPost (D : va_G) (cl : List vw_C) (w : va_W) (sz : Nat) (w' : va_W) (t : State) : Prop := va_P D cl w' t.heap ∧ va_D (va_A w sz) w'
/-- contracts over a world: an int (a boolean) answered, nothing answered, a cell or null answered -/
abbrev CMi {S : Type} (l : Launch) (y : MethodName) (ws : List Cond) (rm : Room) (D : va_G) (cl : List vw_C) (tys : List (ClassId × FieldType)) (w : va_W) (av : List Value) (F : Int32 → S → Prop) (w' : S → va_W) : Prop := ∀ sz : Nat, Met l y ws rm (va_Pc av (wPre D cl tys w sz)) (va_Qi F (fun u t => wPost D cl w sz (w' u) t) (va_A w sz)) rm.cells rm.slots (va_A w sz)
abbrev CMv {S : Type} (l : Launch) (y : MethodName) (ws : List Cond) (rm : Room) (D : va_G) (cl : List vw_C) (tys : List (ClassId × FieldType)) (w : va_W) (av : List Value) (F : S → Prop) (w' : S → va_W) : Prop := ∀ sz : Nat, Met l y ws rm (va_Pc av (wPre D cl tys w sz)) (va_Qv F (fun u t => wPost D cl w sz (w' u) t) (va_A w sz)) rm.cells rm.slots (va_A w sz)
abbrev CMq {S : Type} (l : Launch) (y : MethodName) (ws : List Cond) (rm : Room) (D : va_G) (cl : List vw_C) (tys : List (ClassId × FieldType)) (w : va_W) (av : List Value) (F : Option Nat → S → Prop) (w' : S → va_W) : Prop := ∀ sz : Nat, Met l y ws rm (va_Pc av (wPre D cl tys w sz)) (va_Qq F (fun u t => wPost D cl w sz (w' u) t) (va_A w sz)) rm.cells rm.slots (va_A w sz)
theorem wA_sub {D : va_G} {cl : List vw_C} {A : Nat → Prop} {H0 H : Heap} {locs : List Loc} {w : va_W} (hA : ∀ q, H0.size ≤ q → A q) (hG : wI D cl A H0 H locs w) : ∀ q, va_A w H.size q → A q := by
  intro q h
  rcases h with ⟨k, e, h⟩ | h
  · exact hG.2.1.2 k (q, e) h
  · exact hA q (Nat.le_trans hG.2.2.1 h)
/-- a world in two parts: the second stays while the first's method runs -/
theorem wI_app1 {D : va_G} {cl : List vw_C} {A : Nat → Prop} {H0 H : Heap} {locs : List Loc} {w v : va_W} (hG : wI D cl A H0 H locs (w ++ v)) : wI D cl A H0 H locs w := by
  refine ⟨fun k q hk => hG.1 k q ?_, ⟨fun i j x y hi hj h => hG.2.1.1 i j x y ?_ ?_ h, fun k q hk => hG.2.1.2 k q ?_⟩, hG.2.2⟩
  all_goals (rw [List.getElem?_append_left (List.getElem?_eq_some_iff.mp (by assumption)).1]; assumption)
theorem wI_app2 {D : va_G} {cl : List vw_C} {A : Nat → Prop} {H0 H : Heap} {locs : List Loc} {w v : va_W} (hG : wI D cl A H0 H locs (w ++ v)) : wI D cl A H0 H locs v := by
  have key : ∀ (k : Nat) (q : Nat × va_E), v[k]? = some q → (w ++ v)[w.length + k]? = some q := fun k q hk => by
    rw [List.getElem?_append_right (by omega), Nat.add_sub_cancel_left]; exact hk
  refine ⟨fun k q hk => hG.1 _ q (key k q hk), ⟨fun i j x y hi hj h => ?_, fun k q hk => hG.2.1.2 _ q (key k q hk)⟩, hG.2.2⟩
  have := hG.2.1.1 _ _ x y (key i x hi) (key j y hj) h
  omega
theorem wI_swap {D : va_G} {cl : List vw_C} {A : Nat → Prop} {H0 H : Heap} {locs : List Loc} {w v : va_W} (hG : wI D cl A H0 H locs (w ++ v)) : wI D cl A H0 H locs (v ++ w) := by
  have h1 := wI_app1 hG
  have h2 := wI_app2 hG
  refine ⟨h2.1.app h1.1, h2.2.1.app h1.2.1 (fun i j x y hi hj h => ?_), hG.2.2⟩
  have a := (List.getElem?_eq_some_iff.mp hj).1
  have := hG.2.1.1 (w.length + i) j x y (by rw [List.getElem?_append_right (by omega), Nat.add_sub_cancel_left]; exact hi) (by rw [List.getElem?_append_left a]; exact hj) h
  omega
theorem wI_join {D : va_G} {cl : List vw_C} {A : Nat → Prop} {H0 H H1 : Heap} {locs locs1 : List Loc} {w w1 v : va_W} (hA : ∀ q, H0.size ≤ q → A q) (hG : wI D cl A H0 H locs (w ++ v))
    (hk : ∀ q : Nat, q < H.size → ¬ va_A w H.size q → H1[q]? = H[q]?) (hP1 : va_P D cl w1 H1) (hD1 : va_D (va_A w H.size) w1) (hS : va_S A H0 H1 locs1) : wI D cl A H0 H1 locs1 (w1 ++ v) := by
  have h1 := wI_app1 hG
  have h2 := wI_app2 hG
  have hF := wA_sub hA h1
  have ap : ∀ (k : Nat) (q : Nat × va_E), v[k]? = some q → q.1 < H.size ∧ ¬ va_A w H.size q.1 := by
    intro k q hq
    have hl := (h2.1 k q hq).lt
    refine ⟨hl, fun h => ?_⟩
    rcases h with ⟨k2, e, h⟩ | h
    · have a := (List.getElem?_eq_some_iff.mp h).1
      have := hG.2.1.1 (w.length + k) k2 q (q.1, e) (by rw [List.getElem?_append_right (by omega), Nat.add_sub_cancel_left]; exact hq) (by rw [List.getElem?_append_left a]; exact h) rfl
      omega
    · omega
  refine ⟨hP1.app (fun k q hq => (h2.1 k q hq).kept (hk q.1 (ap k q hq).1 (ap k q hq).2)), (hD1.weaken (fun k q _ h => hF q.1 h)).app h2.2.1 (fun i j x y hi hj h => ?_), hS⟩
  exact (ap j y hj).2 (by rw [← h]; exact hD1.2 i x hi)
section RW1
variable {p : Program} {l : Launch} {e : Env} {R : Room} {s : State} {m : MethodId} {args : Array Value} {below : List Frame} {meth : Method} {c : Code} {H : Heap} {locs : List Loc} {cells slots : Nat} {Q : State → Prop} {cc : ByteArray} {nL : Nat} {Ts : List Cond} {own : String} {D : va_G} {cl : List vw_C} {tys : List (ClassId × FieldType)} {A : Nat → Prop} {w w' : va_W} {pc : Nat} {ls : Array Slot} {rest st0 : List Value} {a : Nat}
theorem r_get (S : CallFix p m c cc nL s args Ts own) (hK : va_K D cl tys s) (hG : wI D cl A s.heap H locs w) {C : String} {T : u_T} {N ci index : Nat} (hin : ∀ w ∈ u_ws C T N, w ∈ Ts) (q0 : Nat) {fs : List Value} (he : w[q0]? = some (a, .inr (ci, fs))) (hc : cl[ci]? = some (C, T, N)) (k : Nat) (hk : k < N) (hl : Cond.fieldLink own index (T k).1 (T k).2.1 (T k).2.2.1 ∈ Ts) {v : Value} (hv : fs[k]? = some v) (hdg : decode cc pc = .ok (.getfield index, 3))
    (kk : W p l e R s m args below meth c H locs cells slots Q (F0 m (pc + 3) ls (v :: rest))) : W p l e R s m args below meth c H locs cells slots Q (F0 m pc ls (.ref a :: rest)) :=
  va_get S.1 S.2.1 S.2.2.2.2 hin S.2.2.2.1 hK hG.1 q0 he hc k hk (S.2.2.2.2 _ hl) (fun _ h => h) hv hdg kk
theorem r_put (S : CallFix p m c cc nL s args Ts own) (hK : va_K D cl tys s) (hG : wI D cl A s.heap H locs w) {C : String} {T : u_T} {N ci index : Nat} (hin : ∀ w ∈ u_ws C T N, w ∈ Ts) (ty0 : Nat → FieldType) (hty : ∀ k, k < N → parseFieldDescriptor (T k).2.2.1 = some (ty0 k)) (hnm : ∀ a, a < N → ∀ b, b < N → a ≠ b → (T a).2.1 ≠ (T b).2.1) (q0 : Nat) {fs : List Value} (he : w[q0]? = some (a, .inr (ci, fs))) (hc : cl[ci]? = some (C, T, N)) (k : Nat) (hk : k < N) (hl : Cond.fieldLink own index (T k).1 (T k).2.1 (T k).2.2.1 ∈ Ts) (hfin : (T k).2.2.2 = false) {v : Value} (hn : narrow (ty0 k) v = v) (hfit : fits (ty0 k) v = true) (hlen : k < fs.length) (hw : w.set q0 (a, .inr (ci, fs.set k v)) = w') (hdg : decode cc pc = .ok (.putfield index, 3))
    (kk : ∀ (H1 : Heap) (locs1 : List Loc), wI D cl A s.heap H1 locs1 w' → W p l e R s m args below meth c H1 locs1 cells slots Q (F0 m (pc + 3) ls rest)) : W p l e R s m args below meth c H locs cells slots Q (F0 m pc ls (v :: .ref a :: rest)) :=
  va_put S.1 S.2.1 S.2.2.2.2 hin ty0 hty hnm S.2.2.2.1 hK hG.1 hG.2.1 hG.2.2 q0 he hc k hk (S.2.2.2.2 _ hl) (fun _ h => h) hfin (hty k hk) hn hfit hlen hdg (fun H1 locs1 h1 h2 h3 => kk H1 locs1 (by subst hw; exact ⟨h1, h2, h3⟩))
theorem r_iald (S : CallFix p m c cc nL s args Ts own) (hK : va_K D cl tys s) (hG : wI D cl A s.heap H locs w) (q0 t0 : Nat) {cA : ClassId} {n : Nat} {f : Nat → Int32} (he : w[q0]? = some (a, .inl (cA, n, .inl f))) (ht : tys[t0]? = some (cA, .int)) {i : Int32} (hin : vp_in i n) (hdg : decode cc pc = .ok (.iaload, 1))
    (kk : W p l e R s m args below meth c H locs cells slots Q (F0 m (pc + 1) ls (.int (f i.toNatClampNeg) :: rest))) : W p l e R s m args below meth c H locs cells slots Q (F0 m pc ls (.int i :: .ref a :: rest)) :=
  va_iald S.1 S.2.1 hK hG.1 q0 t0 he ht hin hdg kk
theorem r_iast (S : CallFix p m c cc nL s args Ts own) (hK : va_K D cl tys s) (hG : wI D cl A s.heap H locs w) (q0 t0 : Nat) {cA : ClassId} {n : Nat} {f : Nat → Int32} (he : w[q0]? = some (a, .inl (cA, n, .inl f))) (ht : tys[t0]? = some (cA, .int)) {i x : Int32} (hin : vp_in i n) (hw : w.set q0 (a, .inl (cA, n, .inl (upd f i.toNatClampNeg x))) = w') (hdg : decode cc pc = .ok (.iastore, 1))
    (kk : ∀ (H1 : Heap) (locs1 : List Loc), wI D cl A s.heap H1 locs1 w' → W p l e R s m args below meth c H1 locs1 cells slots Q (F0 m (pc + 1) ls rest)) : W p l e R s m args below meth c H locs cells slots Q (F0 m pc ls (.int x :: .int i :: .ref a :: rest)) :=
  va_iast S.1 S.2.1 hK hG.1 hG.2.1 hG.2.2 q0 t0 he ht hin hdg (fun H1 locs1 h1 h2 h3 => kk H1 locs1 (by subst hw; exact ⟨h1, h2, h3⟩))
theorem wBlind {av : List Value} {D : va_G} {cl : List vw_C} {tys : List (ClassId × FieldType)} {w : va_W} {sz : Nat} : FrameBlind (va_Pc av (wPre D cl tys w sz)) := fun a U g mk q => by
  obtain ⟨q0, q1, qP, qK, qD⟩ := q
  exact ⟨q0, q1, qP, va_K.moved (u := U) (U := U.calling g mk a) (Vm.Alike.refl U.vm) qK, qD⟩
theorem wGo {av : List Value} (hK : va_K D cl tys s) (hG : wI D cl A s.heap H locs w) : ∀ U : State, U.heap = H → s.WarmedH U.vm → va_Pc av (wPre D cl tys w H.size) av.toArray U := fun U hU hW =>
  ⟨rfl, by rw [hU], by rw [hU]; exact hG.1, va_K.moved hW.alike hK, hG.2.1.weaken (fun _ _ _ _ => trivial)⟩
theorem wBack {A0 A1 : Nat → Prop} {H0 H1 : Heap} {w1 : va_W} {locs1 : List Loc} (hP : va_P D cl w1 H1) (hD : va_D A1 w1) (hs : ∀ q, A1 q → A0 q) (hS : va_S A0 H0 H1 locs1) : wI D cl A0 H0 H1 locs1 w1 := ⟨hP, hD.weaken (fun _ q _ h => hs q.1 h), hS⟩
/-- calls: the callee's world is the caller's -/
theorem r_callVi {T : Type} {y : MethodName} {bytes : ByteArray} {maxL n index : Nat} {ret : Option FieldType} {ws : List Cond} {rm : Room} {C : String} {b : Addr} {As : List Value} {F : Int32 → T → Prop} {w1 : T → va_W} (S : CallFix p m c cc nL s args Ts own) (hK : va_K D cl tys s) (hA : ∀ q, s.heap.size ≤ q → A q) (hG : wI D cl A s.heap H locs w) (hM : CMi l y ws rm D cl tys w (.ref b :: As) F w1) (cw : CallW R s args own C index y bytes maxL ret ws rm rm.cells rm.slots n)
    (hrc : ∃ cell : Cell, H[b]? = some cell ∧ cell.vm.isStatics = false ∧ s.vm.findClass C = some cell.cls) (hn : As.length = n) (hsz : ls.size = nL) (hst : st0 = As.reverse ++ .ref b :: rest) (hW : (rest.map fun v => v.category).sum ≤ 8) (hdg : decode cc pc = .ok (.invokevirtual index, 3)) (hf : cells + rm.cells ≤ R.cells ∧ slots + rm.slots ≤ R.slots)
    (kk : ∀ (r : Int32) (u : T) (H1 : Heap) (locs1 : List Loc), F r u → wI D cl A s.heap H1 locs1 (w1 u) → W p l e R s m args below meth c H1 locs1 (cells + rm.cells) (slots + rm.slots) Q (F0 m (pc + 3) ls (.int r :: rest))) : W p l e R s m args below meth c H locs cells slots Q (F0 m pc ls st0) := by
  have hs := wA_sub hA hG
  refine va_calli (va_runV S (hM H.size) cw ⟨wBlind, hrc, wGo hK hG⟩ rfl hn hsz hst (lv_room hW) hdg hf) hG.2.2 (fun q _ h => hs q h) hs (fun r u t H1 locs1 ht _ hw hB _ _ hS => ?_)
  obtain ⟨hP1, hD1⟩ := hB
  rw [ht] at hP1
  exact kk r u H1 locs1 hw (wBack hP1 hD1 hs hS)
theorem r_callVv {T : Type} {y : MethodName} {bytes : ByteArray} {maxL n index : Nat} {ret : Option FieldType} {ws : List Cond} {rm : Room} {C : String} {b : Addr} {As : List Value} {F : T → Prop} {w1 : T → va_W} (S : CallFix p m c cc nL s args Ts own) (hK : va_K D cl tys s) (hA : ∀ q, s.heap.size ≤ q → A q) (hG : wI D cl A s.heap H locs w) (hM : CMv l y ws rm D cl tys w (.ref b :: As) F w1) (cw : CallW R s args own C index y bytes maxL ret ws rm rm.cells rm.slots n)
    (hrc : ∃ cell : Cell, H[b]? = some cell ∧ cell.vm.isStatics = false ∧ s.vm.findClass C = some cell.cls) (hn : As.length = n) (hsz : ls.size = nL) (hst : st0 = As.reverse ++ .ref b :: rest) (hW : (rest.map fun v => v.category).sum ≤ 8) (hdg : decode cc pc = .ok (.invokevirtual index, 3)) (hf : cells + rm.cells ≤ R.cells ∧ slots + rm.slots ≤ R.slots)
    (kk : ∀ (u : T) (H1 : Heap) (locs1 : List Loc), F u → wI D cl A s.heap H1 locs1 (w1 u) → W p l e R s m args below meth c H1 locs1 (cells + rm.cells) (slots + rm.slots) Q (F0 m (pc + 3) ls rest)) : W p l e R s m args below meth c H locs cells slots Q (F0 m pc ls st0) := by
  have hs := wA_sub hA hG
  refine va_callv (va_runV S (hM H.size) cw ⟨wBlind, hrc, wGo hK hG⟩ rfl hn hsz hst (lv_room hW) hdg hf) hG.2.2 (fun q _ h => hs q h) hs (fun u t H1 locs1 ht _ hw hB _ _ hS => ?_)
  obtain ⟨hP1, hD1⟩ := hB
  rw [ht] at hP1
  exact kk u H1 locs1 hw (wBack hP1 hD1 hs hS)
theorem r_callVq {T : Type} {y : MethodName} {bytes : ByteArray} {maxL n index : Nat} {ret : Option FieldType} {ws : List Cond} {rm : Room} {C : String} {b : Addr} {As : List Value} {F : Option Nat → T → Prop} {w1 : T → va_W} (S : CallFix p m c cc nL s args Ts own) (hK : va_K D cl tys s) (hA : ∀ q, s.heap.size ≤ q → A q) (hG : wI D cl A s.heap H locs w) (hM : CMq l y ws rm D cl tys w (.ref b :: As) F w1) (cw : CallW R s args own C index y bytes maxL ret ws rm rm.cells rm.slots n)
    (hrc : ∃ cell : Cell, H[b]? = some cell ∧ cell.vm.isStatics = false ∧ s.vm.findClass C = some cell.cls) (hn : As.length = n) (hsz : ls.size = nL) (hst : st0 = As.reverse ++ .ref b :: rest) (hW : (rest.map fun v => v.category).sum ≤ 8) (hdg : decode cc pc = .ok (.invokevirtual index, 3)) (hf : cells + rm.cells ≤ R.cells ∧ slots + rm.slots ≤ R.slots)
    (kk : ∀ (r : Option Nat) (u : T) (H1 : Heap) (locs1 : List Loc), F r u → wI D cl A s.heap H1 locs1 (w1 u) → W p l e R s m args below meth c H1 locs1 (cells + rm.cells) (slots + rm.slots) Q (F0 m (pc + 3) ls (va_rf r :: rest))) : W p l e R s m args below meth c H locs cells slots Q (F0 m pc ls st0) := by
  have hs := wA_sub hA hG
  refine va_callq (va_runV S (hM H.size) cw ⟨wBlind, hrc, wGo hK hG⟩ rfl hn hsz hst (lv_room hW) hdg hf) hG.2.2 (fun q _ h => hs q h) hs (fun r u t H1 locs1 ht _ hw hB _ _ hS => ?_)
  obtain ⟨hP1, hD1⟩ := hB
  rw [ht] at hP1
  exact kk r u H1 locs1 hw (wBack hP1 hD1 hs hS)
theorem r_callSi {T : Type} {y : MethodName} {bytes : ByteArray} {maxL n index : Nat} {ret : Option FieldType} {ws : List Cond} {rm : Room} {As : List Value} {F : Int32 → T → Prop} {w1 : T → va_W} (S : CallFix p m c cc nL s args Ts own) (hK : va_K D cl tys s) (hA : ∀ q, s.heap.size ≤ q → A q) (hG : wI D cl A s.heap H locs w) (hM : CMi l y ws rm D cl tys w As F w1) (cw : CallB R s args own index y bytes maxL ret ws rm rm.cells rm.slots n ∧ (Cond.static y).before args s = true)
    (hn : As.length = n) (hsz : ls.size = nL) (hst : st0 = As.reverse ++ rest) (hW : (rest.map fun v => v.category).sum ≤ 8) (hdg : decode cc pc = .ok (.invokestatic index, 3)) (hf : cells + rm.cells ≤ R.cells ∧ slots + rm.slots ≤ R.slots)
    (kk : ∀ (r : Int32) (u : T) (H1 : Heap) (locs1 : List Loc), F r u → wI D cl A s.heap H1 locs1 (w1 u) → W p l e R s m args below meth c H1 locs1 (cells + rm.cells) (slots + rm.slots) Q (F0 m (pc + 3) ls (.int r :: rest))) : W p l e R s m args below meth c H locs cells slots Q (F0 m pc ls st0) := by
  have hs := wA_sub hA hG
  refine va_calli (va_runS S (hM H.size) cw ⟨wBlind, wGo hK hG⟩ rfl hn hsz hst (lv_room hW) hdg hf) hG.2.2 (fun q _ h => hs q h) hs (fun r u t H1 locs1 ht _ hw hB _ _ hS => ?_)
  obtain ⟨hP1, hD1⟩ := hB
  rw [ht] at hP1
  exact kk r u H1 locs1 hw (wBack hP1 hD1 hs hS)
/-- ends -/
theorem r_iret {T : Type} {F : Int32 → T → Prop} {w0 : va_W} {w1 : T → va_W} {v : Int32} (S : CallFix p m c cc nL s args Ts own) {ty : FieldType} (hr : meth.sig.returnType = some ty) (hlocks : meth.locks = false) (hG : wI D cl (va_A w0 s.heap.size) s.heap H locs w) (u : T) (hw : w1 u = w) (hF : F v u) (hn : narrow ty (.int v) = .int v) (hdg : decode cc pc = .ok (.ireturn, 1)) : W p l e R s m args below meth c H locs cells slots (MQ below (va_Qi F (fun u t => wPost D cl w0 s.heap.size (w1 u) t) (va_A w0 s.heap.size)) args s cells slots (va_A w0 s.heap.size)) (F0 m pc ls [.int v]) :=
  W.zret S.1 S.2.1 hr hn (fun t ht hW => ⟨⟨v, u, rfl, hF, by rw [hw, ht]; exact hG.1, by rw [hw]; exact hG.2.1⟩, hG.2.2.F ht⟩) hG.2.2.2.2 hdg hlocks
theorem r_vret {T : Type} {F : T → Prop} {w0 : va_W} {w1 : T → va_W} (S : CallFix p m c cc nL s args Ts own) (hr : meth.sig.returnType = none) (hlocks : meth.locks = false) (hG : wI D cl (va_A w0 s.heap.size) s.heap H locs w) (u : T) (hw : w1 u = w) (hF : F u) (hdg : decode cc pc = .ok (.return_, 1)) : W p l e R s m args below meth c H locs cells slots (MQ below (va_Qv F (fun u t => wPost D cl w0 s.heap.size (w1 u) t) (va_A w0 s.heap.size)) args s cells slots (va_A w0 s.heap.size)) (F0 m pc ls []) :=
  W.vret S.1 S.2.1 hr (fun t ht hW => ⟨⟨u, rfl, hF, by rw [hw, ht]; exact hG.1, by rw [hw]; exact hG.2.1⟩, hG.2.2.F ht⟩) hG.2.2.2.2 hdg hlocks
end RW1
/-- a contract out of the walk from the entry -/
theorem r_met {l : Launch} {y : MethodName} {ws ws' : List Cond} {rm : Room} {cc : ByteArray} {maxL : Nat} {ret : Option FieldType} {D : va_G} {cl : List vw_C} {tys : List (ClassId × FieldType)} {w : va_W} {av : List Value} {mc ms : Nat} {Qc : Nat → Array Value → State → Outcome → State → Prop} (hy : plainName y.cls = true) (hw : ws = Cond.code y cc maxL ret :: ws') (hlen : (lg_sl av).length ≤ maxL)
    (body : ∀ (p : Program) (e : Env) (s : State) (m : MethodId) (args : Array Value) (below : List Frame) (meth : Method) (c : Code) (ls : Array Slot), CallFix p m c cc maxL s args ws y.cls → meth.sig.returnType = ret → meth.locks = false → meth.name = y.name → va_K D cl tys s → (∀ q, s.heap.size ≤ q → va_A w s.heap.size q) → wI D cl (va_A w s.heap.size) s.heap s.heap [] w → lv_has ls maxL (lv_args 0 av) → W p l e rm s m args below meth c s.heap [] 0 0 (MQ below (Qc s.heap.size) args s mc ms (va_A w s.heap.size)) (F0 m 0 ls [])) :
    ∀ sz : Nat, Met l y ws rm (va_Pc av (wPre D cl tys w sz)) (Qc sz) mc ms (va_A w sz) := by
  intro sz
  refine Met.ofW (cc := cc) (maxL := maxL) (ret := ret) hy hw ?_
  intro p e s m args below meth c s₁ B hml hv
  obtain ⟨rfl, hsz, hP, hK, hD0⟩ := hv
  subst hsz
  have hts := atoms_spec (ws := ws) B.pre
  have hown : s.vm.findClass y.cls = some m.cls := findClass_of_methodNamed B.named
  have hl := lv_entry av (n := maxL) hlen
  rw [lg_entry_eq]
  generalize (lg_sl av ++ List.replicate (maxL - (lg_sl av).length) Slot.unset).toArray = ls at hl ⊢
  exact body p e s m _ below meth c ls ⟨B.exec, B.bytes, hml, hown, hts⟩ B.returns B.notSynchronized (name_of_methodNamed B.named B.method).1 hK (fun q h => Or.inr h) ⟨hP, hD0.self, va_S.rf⟩ hl
end
section
-- ===== PART A: goes FIRST, ahead of the names: the tables' words, and 'selects' of the private methods out of them =====
/-- a private method of a class that the tables say can be made, by its rows of tables_1 -/
def lw_okq (q : MethodName × Nat) : Prop := (q.1.cls ≠ "java/lang/invoke/MethodHandle" ∧ q.1.cls ≠ "java/lang/invoke/VarHandle") ∧ Cond.instantiable q.1.cls q.2 ∈ tables_1 ∧ Cond.privateMethod q.1 ∈ tables_1 ∧ Cond.instanceMethod q.1 ∈ tables_1
theorem lw_p0 : lw_okq (⟨"GardenRules", "reading", "(I)I"⟩, 16) := ⟨⟨by decide +kernel, by decide +kernel⟩, List.mem_of_getElem? (i := 11) (by decide +kernel), List.mem_of_getElem? (i := 126) (by decide +kernel), List.mem_of_getElem? (i := 127) (by decide +kernel)⟩
theorem lw_p1 : lw_okq (⟨"GardenRules", "knowsPartsOfRule", "(III)Z"⟩, 16) := ⟨⟨by decide +kernel, by decide +kernel⟩, List.mem_of_getElem? (i := 11) (by decide +kernel), List.mem_of_getElem? (i := 149) (by decide +kernel), List.mem_of_getElem? (i := 150) (by decide +kernel)⟩
theorem lw_p2 : lw_okq (⟨"GardenRules", "isRule", "(I)Z"⟩, 16) := ⟨⟨by decide +kernel, by decide +kernel⟩, List.mem_of_getElem? (i := 11) (by decide +kernel), List.mem_of_getElem? (i := 153) (by decide +kernel), List.mem_of_getElem? (i := 154) (by decide +kernel)⟩
theorem lw_p3 : lw_okq (⟨"GardenRules", "ruleAt", "(I)LGardenRules$Rule;"⟩, 16) := ⟨⟨by decide +kernel, by decide +kernel⟩, List.mem_of_getElem? (i := 11) (by decide +kernel), List.mem_of_getElem? (i := 157) (by decide +kernel), List.mem_of_getElem? (i := 158) (by decide +kernel)⟩
theorem lw_p4 : lw_okq (⟨"GardenRules", "startWork", "()V"⟩, 16) := ⟨⟨by decide +kernel, by decide +kernel⟩, List.mem_of_getElem? (i := 11) (by decide +kernel), List.mem_of_getElem? (i := 197) (by decide +kernel), List.mem_of_getElem? (i := 198) (by decide +kernel)⟩
theorem lw_p5 : lw_okq (⟨"GardenRules", "says", "(II)Z"⟩, 16) := ⟨⟨by decide +kernel, by decide +kernel⟩, List.mem_of_getElem? (i := 11) (by decide +kernel), List.mem_of_getElem? (i := 201) (by decide +kernel), List.mem_of_getElem? (i := 202) (by decide +kernel)⟩
theorem lw_p6 : lw_okq (⟨"GardenRules", "begins", "()Z"⟩, 16) := ⟨⟨by decide +kernel, by decide +kernel⟩, List.mem_of_getElem? (i := 11) (by decide +kernel), List.mem_of_getElem? (i := 205) (by decide +kernel), List.mem_of_getElem? (i := 206) (by decide +kernel)⟩
theorem lw_p7 : lw_okq (⟨"GardenRules", "saysShare", "(LGardenRules$Rule;)Z"⟩, 16) := ⟨⟨by decide +kernel, by decide +kernel⟩, List.mem_of_getElem? (i := 11) (by decide +kernel), List.mem_of_getElem? (i := 212) (by decide +kernel), List.mem_of_getElem? (i := 213) (by decide +kernel)⟩
theorem lw_p8 : lw_okq (⟨"GardenRules", "saysPointed", "(LGardenRules$Rule;)Z"⟩, 16) := ⟨⟨by decide +kernel, by decide +kernel⟩, List.mem_of_getElem? (i := 11) (by decide +kernel), List.mem_of_getElem? (i := 216) (by decide +kernel), List.mem_of_getElem? (i := 217) (by decide +kernel)⟩
theorem lw_p9 : lw_okq (⟨"GardenRules", "saysBoth", "(LGardenRules$Rule;I)Z"⟩, 16) := ⟨⟨by decide +kernel, by decide +kernel⟩, List.mem_of_getElem? (i := 11) (by decide +kernel), List.mem_of_getElem? (i := 220) (by decide +kernel), List.mem_of_getElem? (i := 221) (by decide +kernel)⟩
theorem lw_p10 : lw_okq (⟨"GardenRules", "saysEither", "(LGardenRules$Rule;I)Z"⟩, 16) := ⟨⟨by decide +kernel, by decide +kernel⟩, List.mem_of_getElem? (i := 11) (by decide +kernel), List.mem_of_getElem? (i := 224) (by decide +kernel), List.mem_of_getElem? (i := 225) (by decide +kernel)⟩
theorem lw_p11 : lw_okq (⟨"GardenRules", "saysOften", "(LGardenRules$Rule;I)Z"⟩, 16) := ⟨⟨by decide +kernel, by decide +kernel⟩, List.mem_of_getElem? (i := 11) (by decide +kernel), List.mem_of_getElem? (i := 228) (by decide +kernel), List.mem_of_getElem? (i := 229) (by decide +kernel)⟩
theorem lw_p12 : lw_okq (⟨"GardenRules", "saysElse", "(LGardenRules$Rule;I)Z"⟩, 16) := ⟨⟨by decide +kernel, by decide +kernel⟩, List.mem_of_getElem? (i := 11) (by decide +kernel), List.mem_of_getElem? (i := 232) (by decide +kernel), List.mem_of_getElem? (i := 233) (by decide +kernel)⟩
theorem lw_p13 : lw_okq (⟨"GardenRules", "canBeCaught", "()Z"⟩, 16) := ⟨⟨by decide +kernel, by decide +kernel⟩, List.mem_of_getElem? (i := 11) (by decide +kernel), List.mem_of_getElem? (i := 236) (by decide +kernel), List.mem_of_getElem? (i := 237) (by decide +kernel)⟩
theorem lw_p14 : lw_okq (⟨"GardenRules", "knowsPartsOfAct", "(IIII)Z"⟩, 16) := ⟨⟨by decide +kernel, by decide +kernel⟩, List.mem_of_getElem? (i := 11) (by decide +kernel), List.mem_of_getElem? (i := 244) (by decide +kernel), List.mem_of_getElem? (i := 245) (by decide +kernel)⟩
theorem lw_p15 : lw_okq (⟨"GardenRules", "isActOrNone", "(I)Z"⟩, 16) := ⟨⟨by decide +kernel, by decide +kernel⟩, List.mem_of_getElem? (i := 11) (by decide +kernel), List.mem_of_getElem? (i := 248) (by decide +kernel), List.mem_of_getElem? (i := 249) (by decide +kernel)⟩
def lw_privs_1 : List (MethodName × Nat) := [(⟨"GardenRules", "reading", "(I)I"⟩, 16), (⟨"GardenRules", "knowsPartsOfRule", "(III)Z"⟩, 16), (⟨"GardenRules", "isRule", "(I)Z"⟩, 16), (⟨"GardenRules", "ruleAt", "(I)LGardenRules$Rule;"⟩, 16), (⟨"GardenRules", "startWork", "()V"⟩, 16), (⟨"GardenRules", "says", "(II)Z"⟩, 16), (⟨"GardenRules", "begins", "()Z"⟩, 16), (⟨"GardenRules", "saysShare", "(LGardenRules$Rule;)Z"⟩, 16), (⟨"GardenRules", "saysPointed", "(LGardenRules$Rule;)Z"⟩, 16), (⟨"GardenRules", "saysBoth", "(LGardenRules$Rule;I)Z"⟩, 16), (⟨"GardenRules", "saysEither", "(LGardenRules$Rule;I)Z"⟩, 16), (⟨"GardenRules", "saysOften", "(LGardenRules$Rule;I)Z"⟩, 16), (⟨"GardenRules", "saysElse", "(LGardenRules$Rule;I)Z"⟩, 16), (⟨"GardenRules", "canBeCaught", "()Z"⟩, 16), (⟨"GardenRules", "knowsPartsOfAct", "(IIII)Z"⟩, 16), (⟨"GardenRules", "isActOrNone", "(I)Z"⟩, 16)]
theorem lw_r1 : ∀ q ∈ lw_privs_1, lw_okq q := List.forall_mem_cons.mpr ⟨lw_p0, List.forall_mem_cons.mpr ⟨lw_p1, List.forall_mem_cons.mpr ⟨lw_p2, List.forall_mem_cons.mpr ⟨lw_p3, List.forall_mem_cons.mpr ⟨lw_p4, List.forall_mem_cons.mpr ⟨lw_p5, List.forall_mem_cons.mpr ⟨lw_p6, List.forall_mem_cons.mpr ⟨lw_p7, List.forall_mem_cons.mpr ⟨lw_p8, List.forall_mem_cons.mpr ⟨lw_p9, List.forall_mem_cons.mpr ⟨lw_p10, List.forall_mem_cons.mpr ⟨lw_p11, List.forall_mem_cons.mpr ⟨lw_p12, List.forall_mem_cons.mpr ⟨lw_p13, List.forall_mem_cons.mpr ⟨lw_p14, List.forall_mem_cons.mpr ⟨lw_p15, fun _ h => absurd h List.not_mem_nil⟩⟩⟩⟩⟩⟩⟩⟩⟩⟩⟩⟩⟩⟩⟩⟩
theorem lw_p16 : lw_okq (⟨"GardenRules", "isAct", "(I)Z"⟩, 16) := ⟨⟨by decide +kernel, by decide +kernel⟩, List.mem_of_getElem? (i := 11) (by decide +kernel), List.mem_of_getElem? (i := 252) (by decide +kernel), List.mem_of_getElem? (i := 253) (by decide +kernel)⟩
theorem lw_p17 : lw_okq (⟨"GardenRules", "actAt", "(I)LGardenRules$Act;"⟩, 16) := ⟨⟨by decide +kernel, by decide +kernel⟩, List.mem_of_getElem? (i := 11) (by decide +kernel), List.mem_of_getElem? (i := 256) (by decide +kernel), List.mem_of_getElem? (i := 257) (by decide +kernel)⟩
theorem lw_p18 : lw_okq (⟨"GardenRules", "does", "(II)I"⟩, 16) := ⟨⟨by decide +kernel, by decide +kernel⟩, List.mem_of_getElem? (i := 11) (by decide +kernel), List.mem_of_getElem? (i := 289) (by decide +kernel), List.mem_of_getElem? (i := 290) (by decide +kernel)⟩
theorem lw_p19 : lw_okq (⟨"GardenRules", "doesPour", "(LGardenRules$Act;)I"⟩, 16) := ⟨⟨by decide +kernel, by decide +kernel⟩, List.mem_of_getElem? (i := 11) (by decide +kernel), List.mem_of_getElem? (i := 293) (by decide +kernel), List.mem_of_getElem? (i := 294) (by decide +kernel)⟩
theorem lw_p20 : lw_okq (⟨"GardenRules", "takesOut", "(II)Z"⟩, 16) := ⟨⟨by decide +kernel, by decide +kernel⟩, List.mem_of_getElem? (i := 11) (by decide +kernel), List.mem_of_getElem? (i := 297) (by decide +kernel), List.mem_of_getElem? (i := 298) (by decide +kernel)⟩
theorem lw_p21 : lw_okq (⟨"GardenRules", "doesMove", "(LGardenRules$Act;)I"⟩, 16) := ⟨⟨by decide +kernel, by decide +kernel⟩, List.mem_of_getElem? (i := 11) (by decide +kernel), List.mem_of_getElem? (i := 301) (by decide +kernel), List.mem_of_getElem? (i := 302) (by decide +kernel)⟩
theorem lw_p22 : lw_okq (⟨"GardenRules", "doesWhen", "(LGardenRules$Act;I)I"⟩, 16) := ⟨⟨by decide +kernel, by decide +kernel⟩, List.mem_of_getElem? (i := 11) (by decide +kernel), List.mem_of_getElem? (i := 305) (by decide +kernel), List.mem_of_getElem? (i := 306) (by decide +kernel)⟩
theorem lw_p23 : lw_okq (⟨"GardenRules", "doesThen", "(LGardenRules$Act;I)I"⟩, 16) := ⟨⟨by decide +kernel, by decide +kernel⟩, List.mem_of_getElem? (i := 11) (by decide +kernel), List.mem_of_getElem? (i := 309) (by decide +kernel), List.mem_of_getElem? (i := 310) (by decide +kernel)⟩
theorem lw_p24 : lw_okq (⟨"GardenRules", "doesTimes", "(LGardenRules$Act;I)I"⟩, 16) := ⟨⟨by decide +kernel, by decide +kernel⟩, List.mem_of_getElem? (i := 11) (by decide +kernel), List.mem_of_getElem? (i := 313) (by decide +kernel), List.mem_of_getElem? (i := 314) (by decide +kernel)⟩
theorem lw_p25 : lw_okq (⟨"GardenRules", "doesLater", "(LGardenRules$Act;)I"⟩, 16) := ⟨⟨by decide +kernel, by decide +kernel⟩, List.mem_of_getElem? (i := 11) (by decide +kernel), List.mem_of_getElem? (i := 317) (by decide +kernel), List.mem_of_getElem? (i := 318) (by decide +kernel)⟩
theorem lw_p26 : lw_okq (⟨"GardenRules", "doesTry", "(LGardenRules$Act;I)I"⟩, 16) := ⟨⟨by decide +kernel, by decide +kernel⟩, List.mem_of_getElem? (i := 11) (by decide +kernel), List.mem_of_getElem? (i := 325) (by decide +kernel), List.mem_of_getElem? (i := 326) (by decide +kernel)⟩
theorem lw_p27 : lw_okq (⟨"GardenRules", "doesShow", "(LGardenRules$Act;)I"⟩, 16) := ⟨⟨by decide +kernel, by decide +kernel⟩, List.mem_of_getElem? (i := 11) (by decide +kernel), List.mem_of_getElem? (i := 332) (by decide +kernel), List.mem_of_getElem? (i := 333) (by decide +kernel)⟩
theorem lw_p28 : lw_okq (⟨"GardenRules", "doThoseDue", "()I"⟩, 16) := ⟨⟨by decide +kernel, by decide +kernel⟩, List.mem_of_getElem? (i := 11) (by decide +kernel), List.mem_of_getElem? (i := 344) (by decide +kernel), List.mem_of_getElem? (i := 345) (by decide +kernel)⟩
theorem lw_p29 : lw_okq (⟨"GardenRules$Waiting", "closeGapAt", "(I)V"⟩, 3) := ⟨⟨by decide +kernel, by decide +kernel⟩, List.mem_of_getElem? (i := 25) (by decide +kernel), List.mem_of_getElem? (i := 352) (by decide +kernel), List.mem_of_getElem? (i := 353) (by decide +kernel)⟩
theorem lw_p30 : lw_okq (⟨"GardenRules", "doOneThatWaited", "(I)V"⟩, 16) := ⟨⟨by decide +kernel, by decide +kernel⟩, List.mem_of_getElem? (i := 11) (by decide +kernel), List.mem_of_getElem? (i := 356) (by decide +kernel), List.mem_of_getElem? (i := 357) (by decide +kernel)⟩
theorem lw_p31 : lw_okq (⟨"GardenRules$Failures", "has", "(I)Z"⟩, 4) := ⟨⟨by decide +kernel, by decide +kernel⟩, List.mem_of_getElem? (i := 43) (by decide +kernel), List.mem_of_getElem? (i := 372) (by decide +kernel), List.mem_of_getElem? (i := 373) (by decide +kernel)⟩
def lw_privs_2 : List (MethodName × Nat) := [(⟨"GardenRules", "isAct", "(I)Z"⟩, 16), (⟨"GardenRules", "actAt", "(I)LGardenRules$Act;"⟩, 16), (⟨"GardenRules", "does", "(II)I"⟩, 16), (⟨"GardenRules", "doesPour", "(LGardenRules$Act;)I"⟩, 16), (⟨"GardenRules", "takesOut", "(II)Z"⟩, 16), (⟨"GardenRules", "doesMove", "(LGardenRules$Act;)I"⟩, 16), (⟨"GardenRules", "doesWhen", "(LGardenRules$Act;I)I"⟩, 16), (⟨"GardenRules", "doesThen", "(LGardenRules$Act;I)I"⟩, 16), (⟨"GardenRules", "doesTimes", "(LGardenRules$Act;I)I"⟩, 16), (⟨"GardenRules", "doesLater", "(LGardenRules$Act;)I"⟩, 16), (⟨"GardenRules", "doesTry", "(LGardenRules$Act;I)I"⟩, 16), (⟨"GardenRules", "doesShow", "(LGardenRules$Act;)I"⟩, 16), (⟨"GardenRules", "doThoseDue", "()I"⟩, 16), (⟨"GardenRules$Waiting", "closeGapAt", "(I)V"⟩, 3), (⟨"GardenRules", "doOneThatWaited", "(I)V"⟩, 16), (⟨"GardenRules$Failures", "has", "(I)Z"⟩, 4)]
theorem lw_r2 : ∀ q ∈ lw_privs_2, lw_okq q := List.forall_mem_cons.mpr ⟨lw_p16, List.forall_mem_cons.mpr ⟨lw_p17, List.forall_mem_cons.mpr ⟨lw_p18, List.forall_mem_cons.mpr ⟨lw_p19, List.forall_mem_cons.mpr ⟨lw_p20, List.forall_mem_cons.mpr ⟨lw_p21, List.forall_mem_cons.mpr ⟨lw_p22, List.forall_mem_cons.mpr ⟨lw_p23, List.forall_mem_cons.mpr ⟨lw_p24, List.forall_mem_cons.mpr ⟨lw_p25, List.forall_mem_cons.mpr ⟨lw_p26, List.forall_mem_cons.mpr ⟨lw_p27, List.forall_mem_cons.mpr ⟨lw_p28, List.forall_mem_cons.mpr ⟨lw_p29, List.forall_mem_cons.mpr ⟨lw_p30, List.forall_mem_cons.mpr ⟨lw_p31, fun _ h => absurd h List.not_mem_nil⟩⟩⟩⟩⟩⟩⟩⟩⟩⟩⟩⟩⟩⟩⟩⟩
theorem lw_p32 : lw_okq (⟨"GardenRulesModel", "isRule", "(I)Z"⟩, 36) := ⟨⟨by decide +kernel, by decide +kernel⟩, List.mem_of_getElem? (i := 392) (by decide +kernel), List.mem_of_getElem? (i := 537) (by decide +kernel), List.mem_of_getElem? (i := 538) (by decide +kernel)⟩
theorem lw_p33 : lw_okq (⟨"GardenRulesModel", "areKnown", "(IIII)Z"⟩, 36) := ⟨⟨by decide +kernel, by decide +kernel⟩, List.mem_of_getElem? (i := 392) (by decide +kernel), List.mem_of_getElem? (i := 545) (by decide +kernel), List.mem_of_getElem? (i := 546) (by decide +kernel)⟩
theorem lw_p34 : lw_okq (⟨"GardenRulesModel", "isActOrNone", "(I)Z"⟩, 36) := ⟨⟨by decide +kernel, by decide +kernel⟩, List.mem_of_getElem? (i := 392) (by decide +kernel), List.mem_of_getElem? (i := 549) (by decide +kernel), List.mem_of_getElem? (i := 550) (by decide +kernel)⟩
theorem lw_p35 : lw_okq (⟨"GardenRulesModel", "isAct", "(I)Z"⟩, 36) := ⟨⟨by decide +kernel, by decide +kernel⟩, List.mem_of_getElem? (i := 392) (by decide +kernel), List.mem_of_getElem? (i := 553) (by decide +kernel), List.mem_of_getElem? (i := 554) (by decide +kernel)⟩
theorem lw_p36 : lw_okq (⟨"GardenRulesModel", "go", "(II)V"⟩, 36) := ⟨⟨by decide +kernel, by decide +kernel⟩, List.mem_of_getElem? (i := 392) (by decide +kernel), List.mem_of_getElem? (i := 561) (by decide +kernel), List.mem_of_getElem? (i := 562) (by decide +kernel)⟩
theorem lw_p37 : lw_okq (⟨"GardenRulesModel", "call", "(II)V"⟩, 36) := ⟨⟨by decide +kernel, by decide +kernel⟩, List.mem_of_getElem? (i := 392) (by decide +kernel), List.mem_of_getElem? (i := 565) (by decide +kernel), List.mem_of_getElem? (i := 566) (by decide +kernel)⟩
theorem lw_p38 : lw_okq (⟨"GardenRulesModel", "goRule", "(II)V"⟩, 36) := ⟨⟨by decide +kernel, by decide +kernel⟩, List.mem_of_getElem? (i := 392) (by decide +kernel), List.mem_of_getElem? (i := 569) (by decide +kernel), List.mem_of_getElem? (i := 570) (by decide +kernel)⟩
theorem lw_p39 : lw_okq (⟨"GardenRulesModel", "says", "(II)V"⟩, 36) := ⟨⟨by decide +kernel, by decide +kernel⟩, List.mem_of_getElem? (i := 392) (by decide +kernel), List.mem_of_getElem? (i := 573) (by decide +kernel), List.mem_of_getElem? (i := 574) (by decide +kernel)⟩
theorem lw_p40 : lw_okq (⟨"GardenRulesModel", "ends", "(I)V"⟩, 36) := ⟨⟨by decide +kernel, by decide +kernel⟩, List.mem_of_getElem? (i := 392) (by decide +kernel), List.mem_of_getElem? (i := 577) (by decide +kernel), List.mem_of_getElem? (i := 578) (by decide +kernel)⟩
theorem lw_p41 : lw_okq (⟨"GardenRulesModel", "fails", "(I)V"⟩, 36) := ⟨⟨by decide +kernel, by decide +kernel⟩, List.mem_of_getElem? (i := 392) (by decide +kernel), List.mem_of_getElem? (i := 581) (by decide +kernel), List.mem_of_getElem? (i := 582) (by decide +kernel)⟩
theorem lw_p42 : lw_okq (⟨"GardenRulesModel", "goOn", "(III)V"⟩, 36) := ⟨⟨by decide +kernel, by decide +kernel⟩, List.mem_of_getElem? (i := 392) (by decide +kernel), List.mem_of_getElem? (i := 585) (by decide +kernel), List.mem_of_getElem? (i := 586) (by decide +kernel)⟩
theorem lw_p43 : lw_okq (⟨"GardenRulesModel", "passes", "()V"⟩, 36) := ⟨⟨by decide +kernel, by decide +kernel⟩, List.mem_of_getElem? (i := 392) (by decide +kernel), List.mem_of_getElem? (i := 589) (by decide +kernel), List.mem_of_getElem? (i := 590) (by decide +kernel)⟩
theorem lw_p44 : lw_okq (⟨"GardenRulesModel", "goAct", "(II)V"⟩, 36) := ⟨⟨by decide +kernel, by decide +kernel⟩, List.mem_of_getElem? (i := 392) (by decide +kernel), List.mem_of_getElem? (i := 593) (by decide +kernel), List.mem_of_getElem? (i := 594) (by decide +kernel)⟩
theorem lw_p45 : lw_okq (⟨"GardenRulesModel", "begins", "(II)V"⟩, 36) := ⟨⟨by decide +kernel, by decide +kernel⟩, List.mem_of_getElem? (i := 392) (by decide +kernel), List.mem_of_getElem? (i := 597) (by decide +kernel), List.mem_of_getElem? (i := 598) (by decide +kernel)⟩
theorem lw_p46 : lw_okq (⟨"GardenRulesModel", "waits", "(II)V"⟩, 36) := ⟨⟨by decide +kernel, by decide +kernel⟩, List.mem_of_getElem? (i := 392) (by decide +kernel), List.mem_of_getElem? (i := 601) (by decide +kernel), List.mem_of_getElem? (i := 602) (by decide +kernel)⟩
theorem lw_p47 : lw_okq (⟨"GardenRulesModel", "due", "()I"⟩, 36) := ⟨⟨by decide +kernel, by decide +kernel⟩, List.mem_of_getElem? (i := 392) (by decide +kernel), List.mem_of_getElem? (i := 617) (by decide +kernel), List.mem_of_getElem? (i := 618) (by decide +kernel)⟩
def lw_privs_3 : List (MethodName × Nat) := [(⟨"GardenRulesModel", "isRule", "(I)Z"⟩, 36), (⟨"GardenRulesModel", "areKnown", "(IIII)Z"⟩, 36), (⟨"GardenRulesModel", "isActOrNone", "(I)Z"⟩, 36), (⟨"GardenRulesModel", "isAct", "(I)Z"⟩, 36), (⟨"GardenRulesModel", "go", "(II)V"⟩, 36), (⟨"GardenRulesModel", "call", "(II)V"⟩, 36), (⟨"GardenRulesModel", "goRule", "(II)V"⟩, 36), (⟨"GardenRulesModel", "says", "(II)V"⟩, 36), (⟨"GardenRulesModel", "ends", "(I)V"⟩, 36), (⟨"GardenRulesModel", "fails", "(I)V"⟩, 36), (⟨"GardenRulesModel", "goOn", "(III)V"⟩, 36), (⟨"GardenRulesModel", "passes", "()V"⟩, 36), (⟨"GardenRulesModel", "goAct", "(II)V"⟩, 36), (⟨"GardenRulesModel", "begins", "(II)V"⟩, 36), (⟨"GardenRulesModel", "waits", "(II)V"⟩, 36), (⟨"GardenRulesModel", "due", "()I"⟩, 36)]
theorem lw_r3 : ∀ q ∈ lw_privs_3, lw_okq q := List.forall_mem_cons.mpr ⟨lw_p32, List.forall_mem_cons.mpr ⟨lw_p33, List.forall_mem_cons.mpr ⟨lw_p34, List.forall_mem_cons.mpr ⟨lw_p35, List.forall_mem_cons.mpr ⟨lw_p36, List.forall_mem_cons.mpr ⟨lw_p37, List.forall_mem_cons.mpr ⟨lw_p38, List.forall_mem_cons.mpr ⟨lw_p39, List.forall_mem_cons.mpr ⟨lw_p40, List.forall_mem_cons.mpr ⟨lw_p41, List.forall_mem_cons.mpr ⟨lw_p42, List.forall_mem_cons.mpr ⟨lw_p43, List.forall_mem_cons.mpr ⟨lw_p44, List.forall_mem_cons.mpr ⟨lw_p45, List.forall_mem_cons.mpr ⟨lw_p46, List.forall_mem_cons.mpr ⟨lw_p47, fun _ h => absurd h List.not_mem_nil⟩⟩⟩⟩⟩⟩⟩⟩⟩⟩⟩⟩⟩⟩⟩⟩
theorem lw_p48 : lw_okq (⟨"GardenRulesModel", "comes", "(I)V"⟩, 36) := ⟨⟨by decide +kernel, by decide +kernel⟩, List.mem_of_getElem? (i := 392) (by decide +kernel), List.mem_of_getElem? (i := 621) (by decide +kernel), List.mem_of_getElem? (i := 622) (by decide +kernel)⟩
def lw_privs_4 : List (MethodName × Nat) := [(⟨"GardenRulesModel", "comes", "(I)V"⟩, 36)]
theorem lw_r4 : ∀ q ∈ lw_privs_4, lw_okq q := List.forall_mem_cons.mpr ⟨lw_p48, fun _ h => absurd h List.not_mem_nil⟩
def lw_privs : List (MethodName × Nat) := lw_privs_1 ++ (lw_privs_2 ++ (lw_privs_3 ++ (lw_privs_4)))
def lw_tbl : List Cond := k2_sels lw_privs ++ tables_1
theorem lw_privs_ok : ∀ q ∈ lw_privs, lw_okq q := by
  show ∀ q ∈ lw_privs_1 ++ (lw_privs_2 ++ (lw_privs_3 ++ (lw_privs_4))), lw_okq q
  exact List.forall_mem_append.mpr ⟨lw_r1, List.forall_mem_append.mpr ⟨lw_r2, List.forall_mem_append.mpr ⟨lw_r3, lw_r4⟩⟩⟩
-- ===== end of PART A; then your names; then what follows =====
end
section
/-! ===== BEGIN words of one list among another's, by their places ===== -/
theorem goodIn_r {big : List Cond} (ws : List Cond) (ps : List Nat) (hp : ws = ps.filterMap (fun i => big[i]?)) (h : ws.all goodWord = true) : GoodIn big ws := by
  intro w hw
  have h1 := List.all_eq_true.mp h w hw
  rw [hp] at hw
  obtain ⟨i, -, hi⟩ := List.mem_filterMap.mp hw
  have hm : w ∈ big := by first | exact List.mem_of_getElem? hi | exact List.getElem?_mem hi
  exact ⟨hm, good_of_word h1⟩
theorem goodIn_app {big a b : List Cond} (ha : GoodIn big a) (hb : GoodIn big b) : GoodIn big (a ++ b) := fun w h => (List.mem_append.mp h).elim (ha w) (hb w)
theorem goodIn_ca {big a b : List Cond} {c : Cond} (ha : GoodIn big (c :: a)) (hb : GoodIn big b) : GoodIn big (c :: (a ++ b)) := fun w h => (List.mem_cons.mp h).elim (fun e => ha w (List.mem_cons.mpr (Or.inl e))) (fun h => (List.mem_append.mp h).elim (fun h => ha w (List.mem_cons.mpr (Or.inr h))) (hb w))
theorem goodIn_sub {big ws : List Cond} (hm : ∀ w ∈ ws, w ∈ big) (h : ws.all goodWord = true) : GoodIn big ws := fun w hw => ⟨hm w hw, good_of_word (List.all_eq_true.mp h w hw)⟩
/-! ===== END ===== -/

/-! ===== BEGIN printed: names, fields, word lists, decode rows ===== -/
def RX0 : String := "GardenRules$Act"
def TX0 : u_T := fun k => match k with
  | 0 => ("GardenRules$Act", "kind", "I", true)
  | 1 => ("GardenRules$Act", "a", "I", true)
  | 2 => ("GardenRules$Act", "b", "I", true)
  | _ => ("GardenRules$Act", "c", "I", true)
def tyX0 : Nat → FieldType := fun k => match k with
  | 0 => .int
  | 1 => .int
  | 2 => .int
  | _ => .int
abbrev wsX00 : List Cond := u_ws RX0 TX0 4
theorem nmX0 : ∀ a, a < 4 → ∀ b, b < 4 → a ≠ b → (TX0 a).2.1 ≠ (TX0 b).2.1 := by decide +kernel
theorem tyX0_ok : ∀ k, k < 4 → parseFieldDescriptor (TX0 k).2.2.1 = some (tyX0 k) := by decide +kernel
abbrev cX0_init : ByteArray := prog_2_method_1_code
def yX0_init : MethodName := ⟨RX0, "<init>", "(IIII)V"⟩
def RX1 : String := "GardenRules$Failures"
def TX1 : u_T := fun k => match k with
  | 0 => ("GardenRules$Failures", "numbers", "[I", true)
  | 1 => ("GardenRules$Failures", "kinds", "[I", true)
  | 2 => ("GardenRules$Failures", "times", "[I", true)
  | _ => ("GardenRules$Failures", "size", "I", false)
def tyX1 : Nat → FieldType := fun k => match k with
  | 0 => .array .int
  | 1 => .array .int
  | 2 => .array .int
  | _ => .int
abbrev wsX10 : List Cond := u_ws RX1 TX1 4
theorem nmX1 : ∀ a, a < 4 → ∀ b, b < 4 → a ≠ b → (TX1 a).2.1 ≠ (TX1 b).2.1 := by decide +kernel
theorem tyX1_ok : ∀ k, k < 4 → parseFieldDescriptor (TX1 k).2.2.1 = some (tyX1 k) := by decide +kernel
abbrev cX1_init : ByteArray := prog_3_method_1_code
def yX1_init : MethodName := ⟨RX1, "<init>", "()V"⟩
abbrev cX1_keep : ByteArray := prog_3_method_2_code
def yX1_keep : MethodName := ⟨RX1, "keep", "(III)V"⟩
abbrev cX1_actAt : ByteArray := prog_3_method_3_code
def yX1_actAt : MethodName := ⟨RX1, "actAt", "(I)I"⟩
abbrev cX1_failureAt : ByteArray := prog_3_method_4_code
def yX1_failureAt : MethodName := ⟨RX1, "failureAt", "(I)I"⟩
abbrev cX1_timeAt : ByteArray := prog_3_method_5_code
def yX1_timeAt : MethodName := ⟨RX1, "timeAt", "(I)I"⟩
abbrev cX1_has : ByteArray := prog_3_method_6_code
def yX1_has : MethodName := ⟨RX1, "has", "(I)Z"⟩
def RX2 : String := "GardenRules$Rule"
def TX2 : u_T := fun k => match k with
  | 0 => ("GardenRules$Rule", "kind", "I", true)
  | 1 => ("GardenRules$Rule", "a", "I", true)
  | 2 => ("GardenRules$Rule", "b", "I", true)
  | 3 => ("GardenRules$Rule", "c", "I", true)
  | 4 => ("GardenRules$Rule", "kept", "I", true)
  | _ => ("GardenRules$Rule", "yeses", "I", false)
def tyX2 : Nat → FieldType := fun k => match k with
  | 0 => .int
  | 1 => .int
  | 2 => .int
  | 3 => .int
  | 4 => .int
  | _ => .int
abbrev wsX20 : List Cond := u_ws RX2 TX2 6
theorem nmX2 : ∀ a, a < 6 → ∀ b, b < 6 → a ≠ b → (TX2 a).2.1 ≠ (TX2 b).2.1 := by decide +kernel
theorem tyX2_ok : ∀ k, k < 6 → parseFieldDescriptor (TX2 k).2.2.1 = some (tyX2 k) := by decide +kernel
abbrev cX2_init : ByteArray := prog_4_method_1_code
def yX2_init : MethodName := ⟨RX2, "<init>", "(IIIII)V"⟩
def RX3 : String := "GardenRules$Waiting"
def TX3 : u_T := fun k => match k with
  | 0 => ("GardenRules$Waiting", "numbers", "[I", true)
  | 1 => ("GardenRules$Waiting", "times", "[I", true)
  | _ => ("GardenRules$Waiting", "size", "I", false)
def tyX3 : Nat → FieldType := fun k => match k with
  | 0 => .array .int
  | 1 => .array .int
  | _ => .int
abbrev wsX30 : List Cond := u_ws RX3 TX3 3
theorem nmX3 : ∀ a, a < 3 → ∀ b, b < 3 → a ≠ b → (TX3 a).2.1 ≠ (TX3 b).2.1 := by decide +kernel
theorem tyX3_ok : ∀ k, k < 3 → parseFieldDescriptor (TX3 k).2.2.1 = some (tyX3 k) := by decide +kernel
abbrev cX3_init : ByteArray := prog_5_method_1_code
def yX3_init : MethodName := ⟨RX3, "<init>", "()V"⟩
abbrev cX3_join : ByteArray := prog_5_method_2_code
def yX3_join : MethodName := ⟨RX3, "join", "(II)V"⟩
abbrev cX3_takeFirstFor : ByteArray := prog_5_method_3_code
def yX3_takeFirstFor : MethodName := ⟨RX3, "takeFirstFor", "(I)I"⟩
abbrev cX3_closeGapAt : ByteArray := prog_5_method_4_code
def yX3_closeGapAt : MethodName := ⟨RX3, "closeGapAt", "(I)V"⟩
def RX4 : String := "GardenRules"
def TX4 : u_T := fun k => match k with
  | 0 => ("GardenRules", "sensors", "[I", true)
  | 1 => ("GardenRules", "tanks", "[I", true)
  | 2 => ("GardenRules", "tanksAhead", "[[I", true)
  | 3 => ("GardenRules", "rules", "[LGardenRules$Rule;", true)
  | 4 => ("GardenRules", "acts", "[LGardenRules$Act;", true)
  | 5 => ("GardenRules", "waiting", "LGardenRules$Waiting;", true)
  | 6 => ("GardenRules", "failures", "LGardenRules$Failures;", true)
  | 7 => ("GardenRules", "ruleCount", "I", false)
  | 8 => ("GardenRules", "actCount", "I", false)
  | 9 => ("GardenRules", "time", "I", false)
  | 10 => ("GardenRules", "begun", "I", false)
  | 11 => ("GardenRules", "begunLatest", "I", false)
  | 12 => ("GardenRules", "begunEver", "I", false)
  | 13 => ("GardenRules", "failure", "I", false)
  | 14 => ("GardenRules", "latestAmount", "I", false)
  | _ => ("GardenRules", "refusal", "I", false)
def tyX4 : Nat → FieldType := fun k => match k with
  | 0 => .array .int
  | 1 => .array .int
  | 2 => .array (.array .int)
  | 3 => .array (.object "GardenRules$Rule")
  | 4 => .array (.object "GardenRules$Act")
  | 5 => .object "GardenRules$Waiting"
  | 6 => .object "GardenRules$Failures"
  | 7 => .int
  | 8 => .int
  | 9 => .int
  | 10 => .int
  | 11 => .int
  | 12 => .int
  | 13 => .int
  | 14 => .int
  | _ => .int
abbrev wsX40 : List Cond := u_ws RX4 TX4 16
theorem nmX4 : ∀ a, a < 16 → ∀ b, b < 16 → a ≠ b → (TX4 a).2.1 ≠ (TX4 b).2.1 := by decide +kernel
theorem tyX4_ok : ∀ k, k < 16 → parseFieldDescriptor (TX4 k).2.2.1 = some (tyX4 k) := by decide +kernel
abbrev cX4_init : ByteArray := prog_1_method_1_code
def yX4_init : MethodName := ⟨RX4, "<init>", "()V"⟩
abbrev cX4_show : ByteArray := prog_1_method_2_code
def yX4_show : MethodName := ⟨RX4, "show", "(II)I"⟩
abbrev cX4_shown : ByteArray := prog_1_method_3_code
def yX4_shown : MethodName := ⟨RX4, "shown", "(I)I"⟩
abbrev cX4_fill : ByteArray := prog_1_method_4_code
def yX4_fill : MethodName := ⟨RX4, "fill", "(II)I"⟩
abbrev cX4_tank : ByteArray := prog_1_method_5_code
def yX4_tank : MethodName := ⟨RX4, "tank", "(I)I"⟩
abbrev cX4_rule : ByteArray := prog_1_method_6_code
def yX4_rule : MethodName := ⟨RX4, "rule", "(IIII)I"⟩
abbrev cX4_ask : ByteArray := prog_1_method_7_code
def yX4_ask : MethodName := ⟨RX4, "ask", "(I)I"⟩
abbrev cX4_act : ByteArray := prog_1_method_8_code
def yX4_act : MethodName := ⟨RX4, "act", "(IIII)I"⟩
abbrev cX4_run : ByteArray := prog_1_method_9_code
def yX4_run : MethodName := ⟨RX4, "run", "(I)I"⟩
abbrev cX4_amount : ByteArray := prog_1_method_10_code
def yX4_amount : MethodName := ⟨RX4, "amount", "()I"⟩
abbrev cX4_tick : ByteArray := prog_1_method_11_code
def yX4_tick : MethodName := ⟨RX4, "tick", "(I)I"⟩
abbrev cX4_failed : ByteArray := prog_1_method_12_code
def yX4_failed : MethodName := ⟨RX4, "failed", "(II)I"⟩
abbrev cX4_count : ByteArray := prog_1_method_13_code
def yX4_count : MethodName := ⟨RX4, "count", "(I)I"⟩
abbrev cX4_why : ByteArray := prog_1_method_14_code
def yX4_why : MethodName := ⟨RX4, "why", "()I"⟩
abbrev cX4_isWithin : ByteArray := prog_1_method_15_code
def yX4_isWithin : MethodName := ⟨RX4, "isWithin", "(III)Z"⟩
abbrev cX4_isSensor : ByteArray := prog_1_method_16_code
def yX4_isSensor : MethodName := ⟨RX4, "isSensor", "(I)Z"⟩
abbrev cX4_isTank : ByteArray := prog_1_method_17_code
def yX4_isTank : MethodName := ⟨RX4, "isTank", "(I)Z"⟩
abbrev cX4_reading : ByteArray := prog_1_method_18_code
def yX4_reading : MethodName := ⟨RX4, "reading", "(I)I"⟩
abbrev cX4_ruleAt : ByteArray := prog_1_method_19_code
def yX4_ruleAt : MethodName := ⟨RX4, "ruleAt", "(I)LGardenRules$Rule;"⟩
abbrev cX4_actAt : ByteArray := prog_1_method_20_code
def yX4_actAt : MethodName := ⟨RX4, "actAt", "(I)LGardenRules$Act;"⟩
abbrev cX4_isRule : ByteArray := prog_1_method_21_code
def yX4_isRule : MethodName := ⟨RX4, "isRule", "(I)Z"⟩
abbrev cX4_isAct : ByteArray := prog_1_method_22_code
def yX4_isAct : MethodName := ⟨RX4, "isAct", "(I)Z"⟩
abbrev cX4_knowsPartsOfRule : ByteArray := prog_1_method_23_code
def yX4_knowsPartsOfRule : MethodName := ⟨RX4, "knowsPartsOfRule", "(III)Z"⟩
abbrev cX4_hasNumbersOfRule : ByteArray := prog_1_method_24_code
def yX4_hasNumbersOfRule : MethodName := ⟨RX4, "hasNumbersOfRule", "(III)Z"⟩
abbrev cX4_knowsPartsOfAct : ByteArray := prog_1_method_25_code
def yX4_knowsPartsOfAct : MethodName := ⟨RX4, "knowsPartsOfAct", "(IIII)Z"⟩
abbrev cX4_isActOrNone : ByteArray := prog_1_method_26_code
def yX4_isActOrNone : MethodName := ⟨RX4, "isActOrNone", "(I)Z"⟩
abbrev cX4_hasNumbersOfAct : ByteArray := prog_1_method_27_code
def yX4_hasNumbersOfAct : MethodName := ⟨RX4, "hasNumbersOfAct", "(III)Z"⟩
abbrev cX4_startWork : ByteArray := prog_1_method_28_code
def yX4_startWork : MethodName := ⟨RX4, "startWork", "()V"⟩
abbrev cX4_begins : ByteArray := prog_1_method_29_code
def yX4_begins : MethodName := ⟨RX4, "begins", "()Z"⟩
abbrev cX4_canBeCaught : ByteArray := prog_1_method_30_code
def yX4_canBeCaught : MethodName := ⟨RX4, "canBeCaught", "()Z"⟩
abbrev cX4_says : ByteArray := prog_1_method_31_code
def yX4_says : MethodName := ⟨RX4, "says", "(II)Z"⟩
abbrev cX4_saysShare : ByteArray := prog_1_method_32_code
def yX4_saysShare : MethodName := ⟨RX4, "saysShare", "(LGardenRules$Rule;)Z"⟩
abbrev cX4_saysPointed : ByteArray := prog_1_method_33_code
def yX4_saysPointed : MethodName := ⟨RX4, "saysPointed", "(LGardenRules$Rule;)Z"⟩
abbrev cX4_saysBoth : ByteArray := prog_1_method_34_code
def yX4_saysBoth : MethodName := ⟨RX4, "saysBoth", "(LGardenRules$Rule;I)Z"⟩
abbrev cX4_saysEither : ByteArray := prog_1_method_35_code
def yX4_saysEither : MethodName := ⟨RX4, "saysEither", "(LGardenRules$Rule;I)Z"⟩
abbrev cX4_saysOften : ByteArray := prog_1_method_36_code
def yX4_saysOften : MethodName := ⟨RX4, "saysOften", "(LGardenRules$Rule;I)Z"⟩
abbrev cX4_saysElse : ByteArray := prog_1_method_37_code
def yX4_saysElse : MethodName := ⟨RX4, "saysElse", "(LGardenRules$Rule;I)Z"⟩
abbrev cX4_does : ByteArray := prog_1_method_38_code
def yX4_does : MethodName := ⟨RX4, "does", "(II)I"⟩
abbrev cX4_doesPour : ByteArray := prog_1_method_39_code
def yX4_doesPour : MethodName := ⟨RX4, "doesPour", "(LGardenRules$Act;)I"⟩
abbrev cX4_doesMove : ByteArray := prog_1_method_40_code
def yX4_doesMove : MethodName := ⟨RX4, "doesMove", "(LGardenRules$Act;)I"⟩
abbrev cX4_takesOut : ByteArray := prog_1_method_41_code
def yX4_takesOut : MethodName := ⟨RX4, "takesOut", "(II)Z"⟩
abbrev cX4_doesWhen : ByteArray := prog_1_method_42_code
def yX4_doesWhen : MethodName := ⟨RX4, "doesWhen", "(LGardenRules$Act;I)I"⟩
abbrev cX4_doesThen : ByteArray := prog_1_method_43_code
def yX4_doesThen : MethodName := ⟨RX4, "doesThen", "(LGardenRules$Act;I)I"⟩
abbrev cX4_doesTimes : ByteArray := prog_1_method_44_code
def yX4_doesTimes : MethodName := ⟨RX4, "doesTimes", "(LGardenRules$Act;I)I"⟩
abbrev cX4_doesLater : ByteArray := prog_1_method_45_code
def yX4_doesLater : MethodName := ⟨RX4, "doesLater", "(LGardenRules$Act;)I"⟩
abbrev cX4_doesTry : ByteArray := prog_1_method_46_code
def yX4_doesTry : MethodName := ⟨RX4, "doesTry", "(LGardenRules$Act;I)I"⟩
abbrev cX4_doesShow : ByteArray := prog_1_method_47_code
def yX4_doesShow : MethodName := ⟨RX4, "doesShow", "(LGardenRules$Act;)I"⟩
abbrev cX4_doThoseDue : ByteArray := prog_1_method_48_code
def yX4_doThoseDue : MethodName := ⟨RX4, "doThoseDue", "()I"⟩
abbrev cX4_doOneThatWaited : ByteArray := prog_1_method_49_code
def yX4_doOneThatWaited : MethodName := ⟨RX4, "doOneThatWaited", "(I)V"⟩
def RX5 : String := "GardenRulesModel"
def TX5 : u_T := fun k => match k with
  | 0 => ("GardenRulesModel", "sensors", "[I", true)
  | 1 => ("GardenRulesModel", "tanks", "[I", true)
  | 2 => ("GardenRulesModel", "time", "I", false)
  | 3 => ("GardenRulesModel", "rules", "I", false)
  | 4 => ("GardenRulesModel", "ruleKinds", "[I", true)
  | 5 => ("GardenRulesModel", "ruleAs", "[I", true)
  | 6 => ("GardenRulesModel", "ruleBs", "[I", true)
  | 7 => ("GardenRulesModel", "ruleCs", "[I", true)
  | 8 => ("GardenRulesModel", "ruleKept", "[I", true)
  | 9 => ("GardenRulesModel", "acts", "I", false)
  | 10 => ("GardenRulesModel", "actKinds", "[I", true)
  | 11 => ("GardenRulesModel", "actAs", "[I", true)
  | 12 => ("GardenRulesModel", "actBs", "[I", true)
  | 13 => ("GardenRulesModel", "actCs", "[I", true)
  | 14 => ("GardenRulesModel", "waiting", "I", false)
  | 15 => ("GardenRulesModel", "waitActs", "[I", true)
  | 16 => ("GardenRulesModel", "waitTimes", "[I", true)
  | 17 => ("GardenRulesModel", "kept", "I", false)
  | 18 => ("GardenRulesModel", "keptActs", "[I", true)
  | 19 => ("GardenRulesModel", "keptFailures", "[I", true)
  | 20 => ("GardenRulesModel", "keptTimes", "[I", true)
  | 21 => ("GardenRulesModel", "amount", "I", false)
  | 22 => ("GardenRulesModel", "latest", "I", false)
  | 23 => ("GardenRulesModel", "ever", "I", false)
  | 24 => ("GardenRulesModel", "why", "I", false)
  | 25 => ("GardenRulesModel", "top", "I", false)
  | 26 => ("GardenRulesModel", "begun", "I", false)
  | 27 => ("GardenRulesModel", "sort", "[I", true)
  | 28 => ("GardenRulesModel", "which", "[I", true)
  | 29 => ("GardenRulesModel", "stage", "[I", true)
  | 30 => ("GardenRulesModel", "sum", "[I", true)
  | 31 => ("GardenRulesModel", "times", "[I", true)
  | 32 => ("GardenRulesModel", "saved", "[I", true)
  | 33 => ("GardenRulesModel", "has", "Z", false)
  | 34 => ("GardenRulesModel", "value", "I", false)
  | _ => ("GardenRulesModel", "failure", "I", false)
def tyX5 : Nat → FieldType := fun k => match k with
  | 0 => .array .int
  | 1 => .array .int
  | 2 => .int
  | 3 => .int
  | 4 => .array .int
  | 5 => .array .int
  | 6 => .array .int
  | 7 => .array .int
  | 8 => .array .int
  | 9 => .int
  | 10 => .array .int
  | 11 => .array .int
  | 12 => .array .int
  | 13 => .array .int
  | 14 => .int
  | 15 => .array .int
  | 16 => .array .int
  | 17 => .int
  | 18 => .array .int
  | 19 => .array .int
  | 20 => .array .int
  | 21 => .int
  | 22 => .int
  | 23 => .int
  | 24 => .int
  | 25 => .int
  | 26 => .int
  | 27 => .array .int
  | 28 => .array .int
  | 29 => .array .int
  | 30 => .array .int
  | 31 => .array .int
  | 32 => .array .int
  | 33 => .boolean
  | 34 => .int
  | _ => .int
abbrev wsX50 : List Cond := u_ws RX5 TX5 36
theorem nmX5 : ∀ a, a < 36 → ∀ b, b < 36 → a ≠ b → (TX5 a).2.1 ≠ (TX5 b).2.1 := by decide +kernel
theorem tyX5_ok : ∀ k, k < 36 → parseFieldDescriptor (TX5 k).2.2.1 = some (tyX5 k) := by decide +kernel
abbrev cX5_init : ByteArray := prog_7_method_1_code
def yX5_init : MethodName := ⟨RX5, "<init>", "()V"⟩
abbrev cX5_in : ByteArray := prog_7_method_3_code
def yX5_in : MethodName := ⟨RX5, "in", "(III)Z"⟩
abbrev cX5_isSensor : ByteArray := prog_7_method_4_code
def yX5_isSensor : MethodName := ⟨RX5, "isSensor", "(I)Z"⟩
abbrev cX5_isTank : ByteArray := prog_7_method_5_code
def yX5_isTank : MethodName := ⟨RX5, "isTank", "(I)Z"⟩
abbrev cX5_show : ByteArray := prog_7_method_6_code
def yX5_show : MethodName := ⟨RX5, "show", "(II)I"⟩
abbrev cX5_shown : ByteArray := prog_7_method_7_code
def yX5_shown : MethodName := ⟨RX5, "shown", "(I)I"⟩
abbrev cX5_fill : ByteArray := prog_7_method_8_code
def yX5_fill : MethodName := ⟨RX5, "fill", "(II)I"⟩
abbrev cX5_tank : ByteArray := prog_7_method_9_code
def yX5_tank : MethodName := ⟨RX5, "tank", "(I)I"⟩
abbrev cX5_isRule : ByteArray := prog_7_method_10_code
def yX5_isRule : MethodName := ⟨RX5, "isRule", "(I)Z"⟩
abbrev cX5_isAct : ByteArray := prog_7_method_11_code
def yX5_isAct : MethodName := ⟨RX5, "isAct", "(I)Z"⟩
abbrev cX5_rule : ByteArray := prog_7_method_12_code
def yX5_rule : MethodName := ⟨RX5, "rule", "(IIII)I"⟩
abbrev cX5_isActOrNone : ByteArray := prog_7_method_13_code
def yX5_isActOrNone : MethodName := ⟨RX5, "isActOrNone", "(I)Z"⟩
abbrev cX5_areKnown : ByteArray := prog_7_method_14_code
def yX5_areKnown : MethodName := ⟨RX5, "areKnown", "(IIII)Z"⟩
abbrev cX5_act : ByteArray := prog_7_method_15_code
def yX5_act : MethodName := ⟨RX5, "act", "(IIII)I"⟩
abbrev cX5_call : ByteArray := prog_7_method_16_code
def yX5_call : MethodName := ⟨RX5, "call", "(II)V"⟩
abbrev cX5_ends : ByteArray := prog_7_method_17_code
def yX5_ends : MethodName := ⟨RX5, "ends", "(I)V"⟩
abbrev cX5_fails : ByteArray := prog_7_method_18_code
def yX5_fails : MethodName := ⟨RX5, "fails", "(I)V"⟩
abbrev cX5_goOn : ByteArray := prog_7_method_19_code
def yX5_goOn : MethodName := ⟨RX5, "goOn", "(III)V"⟩
abbrev cX5_go : ByteArray := prog_7_method_20_code
def yX5_go : MethodName := ⟨RX5, "go", "(II)V"⟩
abbrev cX5_passes : ByteArray := prog_7_method_21_code
def yX5_passes : MethodName := ⟨RX5, "passes", "()V"⟩
abbrev cX5_goRule : ByteArray := prog_7_method_22_code
def yX5_goRule : MethodName := ⟨RX5, "goRule", "(II)V"⟩
abbrev cX5_says : ByteArray := prog_7_method_23_code
def yX5_says : MethodName := ⟨RX5, "says", "(II)V"⟩
abbrev cX5_goAct : ByteArray := prog_7_method_24_code
def yX5_goAct : MethodName := ⟨RX5, "goAct", "(II)V"⟩
abbrev cX5_begins : ByteArray := prog_7_method_25_code
def yX5_begins : MethodName := ⟨RX5, "begins", "(II)V"⟩
abbrev cX5_waits : ByteArray := prog_7_method_26_code
def yX5_waits : MethodName := ⟨RX5, "waits", "(II)V"⟩
abbrev cX5_ask : ByteArray := prog_7_method_27_code
def yX5_ask : MethodName := ⟨RX5, "ask", "(I)I"⟩
abbrev cX5_run : ByteArray := prog_7_method_28_code
def yX5_run : MethodName := ⟨RX5, "run", "(I)I"⟩
abbrev cX5_amount : ByteArray := prog_7_method_29_code
def yX5_amount : MethodName := ⟨RX5, "amount", "()I"⟩
abbrev cX5_due : ByteArray := prog_7_method_30_code
def yX5_due : MethodName := ⟨RX5, "due", "()I"⟩
abbrev cX5_tick : ByteArray := prog_7_method_31_code
def yX5_tick : MethodName := ⟨RX5, "tick", "(I)I"⟩
abbrev cX5_comes : ByteArray := prog_7_method_32_code
def yX5_comes : MethodName := ⟨RX5, "comes", "(I)V"⟩
abbrev cX5_failed : ByteArray := prog_7_method_33_code
def yX5_failed : MethodName := ⟨RX5, "failed", "(II)I"⟩
abbrev cX5_count : ByteArray := prog_7_method_34_code
def yX5_count : MethodName := ⟨RX5, "count", "(I)I"⟩
abbrev cX5_why : ByteArray := prog_7_method_35_code
def yX5_why : MethodName := ⟨RX5, "why", "()I"⟩
def RJ9 : String := "java/lang/Math"
def TJ9 : u_T := fun k => match k with
  | _ => ("", "", "", false)
def tyJ9 : Nat → FieldType := fun k => match k with
  | _ => .int
abbrev wsJ90 : List Cond := u_ws RJ9 TJ9 0
theorem nmJ9 : ∀ a, a < 0 → ∀ b, b < 0 → a ≠ b → (TJ9 a).2.1 ≠ (TJ9 b).2.1 := by decide +kernel
theorem tyJ9_ok : ∀ k, k < 0 → parseFieldDescriptor (TJ9 k).2.2.1 = some (tyJ9 k) := by decide +kernel
abbrev cJ9_abs_067f4 : ByteArray := prog_8_method_61_code
def yJ9_abs_067f4 : MethodName := ⟨RJ9, "abs", "(J)J"⟩
def RJ10 : String := "java/lang/System"
def TJ10 : u_T := fun k => match k with
  | _ => ("", "", "", false)
def tyJ10 : Nat → FieldType := fun k => match k with
  | _ => .int
abbrev wsJ100 : List Cond := u_ws RJ10 TJ10 0
theorem nmJ10 : ∀ a, a < 0 → ∀ b, b < 0 → a ≠ b → (TJ10 a).2.1 ≠ (TJ10 b).2.1 := by decide +kernel
theorem tyJ10_ok : ∀ k, k < 0 → parseFieldDescriptor (TJ10 k).2.2.1 = some (tyJ10 k) := by decide +kernel
def RJ7 : String := "java/util/Arrays"
def TJ7 : u_T := fun k => match k with
  | _ => ("", "", "", false)
def tyJ7 : Nat → FieldType := fun k => match k with
  | _ => .int
abbrev wsJ70 : List Cond := u_ws RJ7 TJ7 0
theorem nmJ7 : ∀ a, a < 0 → ∀ b, b < 0 → a ≠ b → (TJ7 a).2.1 ≠ (TJ7 b).2.1 := by decide +kernel
theorem tyJ7_ok : ∀ k, k < 0 → parseFieldDescriptor (TJ7 k).2.2.1 = some (tyJ7 k) := by decide +kernel
abbrev cJ7_fill_53178 : ByteArray := prog_10_method_103_code
def yJ7_fill_53178 : MethodName := ⟨RJ7, "fill", "([II)V"⟩
def RL : String := "GardenRulesLaw"
abbrev cL_law : ByteArray := code
def yL_law : MethodName := ⟨RL, "law", "([I)Z"⟩
def wsX0_init : List Cond := .code yX0_init cX0_init 5 none :: ([.methodLink RX0 1 objectInit, .instanceMethod objectInit, .code objectInit ⟨#[0xb1]⟩ 1 none, .fieldLink RX0 7 "GardenRules$Act" "kind" "I", .fieldLink RX0 13 "GardenRules$Act" "a" "I", .fieldLink RX0 16 "GardenRules$Act" "b" "I", .fieldLink RX0 19 "GardenRules$Act" "c" "I"] ++ wsX00)
def wsX1_init : List Cond := .code yX1_init cX1_init 1 none :: ([.methodLink RX1 3 objectInit, .instanceMethod objectInit, .code objectInit ⟨#[0xb1]⟩ 1 none, .arrayClass .int, .fieldLink RX1 9 "GardenRules$Failures" "numbers" "[I", .fieldLink RX1 15 "GardenRules$Failures" "kinds" "[I", .fieldLink RX1 18 "GardenRules$Failures" "times" "[I"] ++ wsX10)
def wsX1_keep : List Cond := .code yX1_keep cX1_keep 4 none :: ([.fieldLink RX1 21 "GardenRules$Failures" "size" "I", .fieldLink RX1 9 "GardenRules$Failures" "numbers" "[I", .fieldLink RX1 15 "GardenRules$Failures" "kinds" "[I", .fieldLink RX1 18 "GardenRules$Failures" "times" "[I"] ++ wsX10)
def wsX1_has : List Cond := .code yX1_has cX1_has 2 (some .boolean) :: ([.fieldLink RX1 21 "GardenRules$Failures" "size" "I"] ++ wsX10)
def wsX1_actAt : List Cond := .code yX1_actAt cX1_actAt 2 (some .int) :: ([.fieldLink RX1 9 "GardenRules$Failures" "numbers" "[I", .methodLink RX1 25 yX1_has, .instanceMethod yX1_has, .selects RX1 yX1_has yX1_has, .initialized RX1, .code yX1_has cX1_has 2 (some .boolean), .fieldLink RX1 21 "GardenRules$Failures" "size" "I"] ++ wsX10)
def wsX1_failureAt : List Cond := .code yX1_failureAt cX1_failureAt 2 (some .int) :: ([.fieldLink RX1 15 "GardenRules$Failures" "kinds" "[I", .methodLink RX1 25 yX1_has, .instanceMethod yX1_has, .selects RX1 yX1_has yX1_has, .initialized RX1, .code yX1_has cX1_has 2 (some .boolean), .fieldLink RX1 21 "GardenRules$Failures" "size" "I"] ++ wsX10)
def wsX1_timeAt : List Cond := .code yX1_timeAt cX1_timeAt 2 (some .int) :: ([.fieldLink RX1 18 "GardenRules$Failures" "times" "[I", .methodLink RX1 25 yX1_has, .instanceMethod yX1_has, .selects RX1 yX1_has yX1_has, .initialized RX1, .code yX1_has cX1_has 2 (some .boolean), .fieldLink RX1 21 "GardenRules$Failures" "size" "I"] ++ wsX10)
def wsX2_init : List Cond := .code yX2_init cX2_init 6 none :: ([.methodLink RX2 1 objectInit, .instanceMethod objectInit, .code objectInit ⟨#[0xb1]⟩ 1 none, .fieldLink RX2 7 "GardenRules$Rule" "kind" "I", .fieldLink RX2 13 "GardenRules$Rule" "a" "I", .fieldLink RX2 16 "GardenRules$Rule" "b" "I", .fieldLink RX2 19 "GardenRules$Rule" "c" "I", .fieldLink RX2 22 "GardenRules$Rule" "kept" "I"] ++ wsX20)
def wsX3_init : List Cond := .code yX3_init cX3_init 1 none :: ([.methodLink RX3 3 objectInit, .instanceMethod objectInit, .code objectInit ⟨#[0xb1]⟩ 1 none, .arrayClass .int, .fieldLink RX3 9 "GardenRules$Waiting" "numbers" "[I", .fieldLink RX3 15 "GardenRules$Waiting" "times" "[I"] ++ wsX30)
def wsX3_join : List Cond := .code yX3_join cX3_join 3 none :: ([.fieldLink RX3 18 "GardenRules$Waiting" "size" "I", .fieldLink RX3 9 "GardenRules$Waiting" "numbers" "[I", .fieldLink RX3 15 "GardenRules$Waiting" "times" "[I"] ++ wsX30)
def wsX3_closeGapAt : List Cond := .code yX3_closeGapAt cX3_closeGapAt 3 none :: ([.fieldLink RX3 18 "GardenRules$Waiting" "size" "I", .fieldLink RX3 9 "GardenRules$Waiting" "numbers" "[I", .fieldLink RX3 15 "GardenRules$Waiting" "times" "[I"] ++ wsX30)
def wsX3_takeFirstFor : List Cond := .code yX3_takeFirstFor cX3_takeFirstFor 4 (some .int) :: ([.fieldLink RX3 18 "GardenRules$Waiting" "size" "I", .fieldLink RX3 15 "GardenRules$Waiting" "times" "[I", .fieldLink RX3 9 "GardenRules$Waiting" "numbers" "[I", .methodLink RX3 22 yX3_closeGapAt, .instanceMethod yX3_closeGapAt, .selects RX3 yX3_closeGapAt yX3_closeGapAt, .initialized RX3, .code yX3_closeGapAt cX3_closeGapAt 3 none] ++ wsX30)
def wsJ7_fill_53178 : List Cond := .code yJ7_fill_53178 cJ7_fill_53178 4 none :: ([])
def wsX4_init_r1 : List Cond := [Cond.methodLink RX4 1 objectInit, Cond.instanceMethod objectInit, Cond.code objectInit ⟨#[0xb1]⟩ 1 none, Cond.arrayClass .int, Cond.fieldLink RX4 9 "GardenRules" "sensors" "[I", Cond.fieldLink RX4 13 "GardenRules" "tanks" "[I", Cond.classLink RX4 16 "[[I", Cond.fieldLink RX4 18 "GardenRules" "tanksAhead" "[[I", Cond.classLink RX4 21 RX2, Cond.fieldLink RX4 23 "GardenRules" "rules" "[LGardenRules$Rule;", Cond.classLink RX4 27 RX0, Cond.fieldLink RX4 29 "GardenRules" "acts" "[LGardenRules$Act;", Cond.classLink RX4 33 RX3, Cond.instantiable RX3 3, Cond.initialized RX3, Cond.fieldLink RX4 36 "GardenRules" "waiting" "LGardenRules$Waiting;", Cond.classLink RX4 40 RX1, Cond.instantiable RX1 4, Cond.initialized RX1, Cond.fieldLink RX4 43 "GardenRules" "failures" "LGardenRules$Failures;", Cond.instanceMethod yX3_init, Cond.code yX3_init cX3_init 1 none, Cond.methodLink RX3 3 objectInit, Cond.fieldLink RX3 9 "GardenRules$Waiting" "numbers" "[I"]
def wsX4_init_r2 : List Cond := [Cond.fieldLink RX3 15 "GardenRules$Waiting" "times" "[I", Cond.instanceMethod yX1_init, Cond.code yX1_init cX1_init 1 none, Cond.methodLink RX1 3 objectInit, Cond.fieldLink RX1 9 "GardenRules$Failures" "numbers" "[I", Cond.fieldLink RX1 15 "GardenRules$Failures" "kinds" "[I", Cond.fieldLink RX1 18 "GardenRules$Failures" "times" "[I", Cond.methodLink RX4 47 yJ7_fill_53178, Cond.static yJ7_fill_53178, Cond.initialized RJ7, Cond.code yJ7_fill_53178 cJ7_fill_53178 4 none]
def wsX4_init : List Cond := .code yX4_init cX4_init 1 none :: ((wsX4_init_r1 ++ wsX4_init_r2) ++ wsX40 ++ wsX30 ++ wsX10)
def wsX4_isSensor : List Cond := .code yX4_isSensor cX4_isSensor 1 (some .boolean) :: ([])
def wsX4_show : List Cond := .code yX4_show cX4_show 4 (some .int) :: ([.fieldLink RX4 57 "GardenRules" "refusal" "I", .fieldLink RX4 9 "GardenRules" "sensors" "[I", .methodLink RX4 53 yX4_isSensor, .static yX4_isSensor, .initialized RX4, .code yX4_isSensor cX4_isSensor 1 (some .boolean)] ++ wsX40)
def wsX4_reading : List Cond := .code yX4_reading cX4_reading 2 (some .int) :: ([.fieldLink RX4 9 "GardenRules" "sensors" "[I"] ++ wsX40)
def wsX4_shown : List Cond := .code yX4_shown cX4_shown 2 (some .int) :: ([.fieldLink RX4 57 "GardenRules" "refusal" "I", .methodLink RX4 53 yX4_isSensor, .static yX4_isSensor, .initialized RX4, .code yX4_isSensor cX4_isSensor 1 (some .boolean), .methodLink RX4 61 yX4_reading, .instanceMethod yX4_reading, .selects RX4 yX4_reading yX4_reading, .code yX4_reading cX4_reading 2 (some .int), .fieldLink RX4 9 "GardenRules" "sensors" "[I"] ++ wsX40)
def wsX4_isTank : List Cond := .code yX4_isTank cX4_isTank 1 (some .boolean) :: ([])
def wsX4_isWithin : List Cond := .code yX4_isWithin cX4_isWithin 3 (some .boolean) :: ([])
def wsX4_fill : List Cond := .code yX4_fill cX4_fill 4 (some .int) :: ([.constant RX4 68 (1000000), .fieldLink RX4 13 "GardenRules" "tanks" "[I", .methodLink RX4 65 yX4_isTank, .static yX4_isTank, .initialized RX4, .code yX4_isTank cX4_isTank 1 (some .boolean), .methodLink RX4 69 yX4_isWithin, .static yX4_isWithin, .code yX4_isWithin cX4_isWithin 3 (some .boolean)] ++ wsX40)
def wsX4_tank : List Cond := .code yX4_tank cX4_tank 2 (some .int) :: ([.fieldLink RX4 13 "GardenRules" "tanks" "[I", .methodLink RX4 65 yX4_isTank, .static yX4_isTank, .initialized RX4, .code yX4_isTank cX4_isTank 1 (some .boolean)] ++ wsX40)
def wsX4_ruleAt : List Cond := .code yX4_ruleAt cX4_ruleAt 2 (some (.object "GardenRules$Rule")) :: ([.fieldLink RX4 79 "GardenRules" "ruleCount" "I", .fieldLink RX4 23 "GardenRules" "rules" "[LGardenRules$Rule;"] ++ wsX40)
def wsX4_isRule : List Cond := .code yX4_isRule cX4_isRule 2 (some .boolean) :: ([.methodLink RX4 85 yX4_ruleAt, .instanceMethod yX4_ruleAt, .selects RX4 yX4_ruleAt yX4_ruleAt, .initialized RX4, .code yX4_ruleAt cX4_ruleAt 2 (some (.object "GardenRules$Rule")), .fieldLink RX4 79 "GardenRules" "ruleCount" "I", .fieldLink RX4 23 "GardenRules" "rules" "[LGardenRules$Rule;"] ++ wsX40)
def wsX4_knowsPartsOfRule : List Cond := .code yX4_knowsPartsOfRule cX4_knowsPartsOfRule 4 (some .boolean) :: ([.methodLink RX4 53 yX4_isSensor, .static yX4_isSensor, .initialized RX4, .code yX4_isSensor cX4_isSensor 1 (some .boolean), .methodLink RX4 151 yX4_isRule, .instanceMethod yX4_isRule, .selects RX4 yX4_isRule yX4_isRule, .code yX4_isRule cX4_isRule 2 (some .boolean), .methodLink RX4 85 yX4_ruleAt, .instanceMethod yX4_ruleAt, .selects RX4 yX4_ruleAt yX4_ruleAt, .code yX4_ruleAt cX4_ruleAt 2 (some (.object "GardenRules$Rule")), .fieldLink RX4 79 "GardenRules" "ruleCount" "I", .fieldLink RX4 23 "GardenRules" "rules" "[LGardenRules$Rule;"] ++ wsX40)
def wsX4_hasNumbersOfRule : List Cond := .code yX4_hasNumbersOfRule cX4_hasNumbersOfRule 3 (some .boolean) :: ([.methodLink RX4 69 yX4_isWithin, .static yX4_isWithin, .initialized RX4, .code yX4_isWithin cX4_isWithin 3 (some .boolean)])
def wsX4_rule_r1 : List Cond := [Cond.fieldLink RX4 79 "GardenRules" "ruleCount" "I", Cond.fieldLink RX4 23 "GardenRules" "rules" "[LGardenRules$Rule;", Cond.classLink RX4 21 RX2, Cond.instantiable RX2 6, Cond.initialized RX2, Cond.methodLink RX4 69 yX4_isWithin, Cond.static yX4_isWithin, Cond.initialized RX4, Cond.code yX4_isWithin cX4_isWithin 3 (some .boolean), Cond.methodLink RX4 73 yX4_knowsPartsOfRule, Cond.instanceMethod yX4_knowsPartsOfRule, Cond.selects RX4 yX4_knowsPartsOfRule yX4_knowsPartsOfRule, Cond.code yX4_knowsPartsOfRule cX4_knowsPartsOfRule 4 (some .boolean), Cond.methodLink RX4 53 yX4_isSensor, Cond.static yX4_isSensor, Cond.code yX4_isSensor cX4_isSensor 1 (some .boolean), Cond.methodLink RX4 151 yX4_isRule, Cond.instanceMethod yX4_isRule, Cond.selects RX4 yX4_isRule yX4_isRule, Cond.code yX4_isRule cX4_isRule 2 (some .boolean), Cond.methodLink RX4 85 yX4_ruleAt, Cond.instanceMethod yX4_ruleAt, Cond.selects RX4 yX4_ruleAt yX4_ruleAt, Cond.code yX4_ruleAt cX4_ruleAt 2 (some (.object "GardenRules$Rule"))]
def wsX4_rule_r2 : List Cond := [Cond.methodLink RX4 76 yX4_hasNumbersOfRule, Cond.static yX4_hasNumbersOfRule, Cond.code yX4_hasNumbersOfRule cX4_hasNumbersOfRule 3 (some .boolean), Cond.methodLink RX4 61 yX4_reading, Cond.instanceMethod yX4_reading, Cond.selects RX4 yX4_reading yX4_reading, Cond.code yX4_reading cX4_reading 2 (some .int), Cond.fieldLink RX4 9 "GardenRules" "sensors" "[I", Cond.methodLink RX4 82 yX2_init, Cond.instanceMethod yX2_init, Cond.code yX2_init cX2_init 6 none, Cond.methodLink RX2 1 objectInit, Cond.instanceMethod objectInit, Cond.code objectInit ⟨#[0xb1]⟩ 1 none, Cond.fieldLink RX2 7 "GardenRules$Rule" "kind" "I", Cond.fieldLink RX2 13 "GardenRules$Rule" "a" "I", Cond.fieldLink RX2 16 "GardenRules$Rule" "b" "I", Cond.fieldLink RX2 19 "GardenRules$Rule" "c" "I", Cond.fieldLink RX2 22 "GardenRules$Rule" "kept" "I"]
def wsX4_rule : List Cond := .code yX4_rule cX4_rule 5 (some .int) :: ((wsX4_rule_r1 ++ wsX4_rule_r2) ++ wsX40 ++ wsX20)
def wsX4_startWork : List Cond := .code yX4_startWork cX4_startWork 1 none :: ([.fieldLink RX4 99 "GardenRules" "begun" "I", .fieldLink RX4 105 "GardenRules" "failure" "I"] ++ wsX40)
def wsX4_begins : List Cond := .code yX4_begins cX4_begins 1 (some .boolean) :: ([.fieldLink RX4 99 "GardenRules" "begun" "I", .fieldLink RX4 105 "GardenRules" "failure" "I", .fieldLink RX4 89 "GardenRules" "begunEver" "I"] ++ wsX40)
def wsX4_saysShare : List Cond := .code yX4_saysShare cX4_saysShare 6 (some .boolean) :: ([.fieldLink RX4 167 "GardenRules$Rule" "a" "I", .fieldLink RX4 170 "GardenRules$Rule" "b" "I", .fieldLink RX4 105 "GardenRules" "failure" "I", .fieldLink RX4 179 "GardenRules$Rule" "c" "I", .methodLink RX4 61 yX4_reading, .instanceMethod yX4_reading, .selects RX4 yX4_reading yX4_reading, .initialized RX4, .code yX4_reading cX4_reading 2 (some .int), .fieldLink RX4 9 "GardenRules" "sensors" "[I"] ++ wsX20 ++ wsX40)
def wsX4_saysPointed : List Cond := .code yX4_saysPointed cX4_saysPointed 3 (some .boolean) :: ([.fieldLink RX4 167 "GardenRules$Rule" "a" "I", .fieldLink RX4 105 "GardenRules" "failure" "I", .fieldLink RX4 170 "GardenRules$Rule" "b" "I", .methodLink RX4 61 yX4_reading, .instanceMethod yX4_reading, .selects RX4 yX4_reading yX4_reading, .initialized RX4, .code yX4_reading cX4_reading 2 (some .int), .fieldLink RX4 9 "GardenRules" "sensors" "[I", .methodLink RX4 53 yX4_isSensor, .static yX4_isSensor, .code yX4_isSensor cX4_isSensor 1 (some .boolean)] ++ wsX20 ++ wsX40)
def wsX4_canBeCaught : List Cond := .code yX4_canBeCaught cX4_canBeCaught 1 (some .boolean) :: ([.fieldLink RX4 105 "GardenRules" "failure" "I"] ++ wsX40)
def wsX4_says_r1 : List Cond := [Cond.fieldLink RX4 105 "GardenRules" "failure" "I", Cond.fieldLink RX4 164 "GardenRules$Rule" "kind" "I", Cond.fieldLink RX4 167 "GardenRules$Rule" "a" "I", Cond.fieldLink RX4 170 "GardenRules$Rule" "b" "I", Cond.methodLink RX4 173 Lib.MathLoose.abs_long.x, Cond.static Lib.MathLoose.abs_long.x, Cond.initialized "java/lang/Math", Cond.code Lib.MathLoose.abs_long.x Lib.MathLoose.abs_long.code 2 (some .long), Cond.fieldLink RX4 179 "GardenRules$Rule" "c" "I", Cond.fieldLink RX4 182 "GardenRules$Rule" "kept" "I", Cond.methodLink RX4 160 yX4_begins, Cond.instanceMethod yX4_begins, Cond.selects RX4 yX4_begins yX4_begins, Cond.initialized RX4, Cond.code yX4_begins cX4_begins 1 (some .boolean), Cond.fieldLink RX4 99 "GardenRules" "begun" "I", Cond.fieldLink RX4 89 "GardenRules" "begunEver" "I", Cond.methodLink RX4 85 yX4_ruleAt, Cond.instanceMethod yX4_ruleAt, Cond.selects RX4 yX4_ruleAt yX4_ruleAt, Cond.code yX4_ruleAt cX4_ruleAt 2 (some (.object "GardenRules$Rule")), Cond.fieldLink RX4 79 "GardenRules" "ruleCount" "I", Cond.fieldLink RX4 23 "GardenRules" "rules" "[LGardenRules$Rule;", Cond.methodLink RX4 61 yX4_reading]
def wsX4_says_r2 : List Cond := [Cond.instanceMethod yX4_reading, Cond.selects RX4 yX4_reading yX4_reading, Cond.code yX4_reading cX4_reading 2 (some .int), Cond.fieldLink RX4 9 "GardenRules" "sensors" "[I", Cond.methodLink RX4 185 yX4_saysShare, Cond.instanceMethod yX4_saysShare, Cond.selects RX4 yX4_saysShare yX4_saysShare, Cond.code yX4_saysShare cX4_saysShare 6 (some .boolean), Cond.methodLink RX4 189 yX4_saysPointed, Cond.instanceMethod yX4_saysPointed, Cond.selects RX4 yX4_saysPointed yX4_saysPointed, Cond.code yX4_saysPointed cX4_saysPointed 3 (some .boolean), Cond.methodLink RX4 53 yX4_isSensor, Cond.static yX4_isSensor, Cond.code yX4_isSensor cX4_isSensor 1 (some .boolean), Cond.methodLink RX4 95 yX4_says, Cond.instanceMethod yX4_says, Cond.selects RX4 yX4_says yX4_says, Cond.methodLink RX4 192 yX4_saysBoth, Cond.instanceMethod yX4_saysBoth, Cond.selects RX4 yX4_saysBoth yX4_saysBoth, Cond.methodLink RX4 196 yX4_saysEither, Cond.instanceMethod yX4_saysEither, Cond.selects RX4 yX4_saysEither yX4_saysEither]
def wsX4_says_r3 : List Cond := [Cond.methodLink RX4 199 yX4_saysOften, Cond.instanceMethod yX4_saysOften, Cond.selects RX4 yX4_saysOften yX4_saysOften, Cond.methodLink RX4 202 yX4_saysElse, Cond.instanceMethod yX4_saysElse, Cond.selects RX4 yX4_saysElse yX4_saysElse, Cond.code yX4_saysBoth cX4_saysBoth 4 (some .boolean), Cond.code yX4_saysEither cX4_saysEither 4 (some .boolean), Cond.code yX4_saysElse cX4_saysElse 4 (some .boolean), Cond.methodLink RX4 208 yX4_canBeCaught, Cond.instanceMethod yX4_canBeCaught, Cond.selects RX4 yX4_canBeCaught yX4_canBeCaught, Cond.code yX4_canBeCaught cX4_canBeCaught 1 (some .boolean), Cond.code yX4_saysOften cX4_saysOften 4 (some .boolean), Cond.fieldLink RX4 205 "GardenRules$Rule" "yeses" "I"]
def wsX4_says : List Cond := .code yX4_says cX4_says 4 (some .boolean) :: ((wsX4_says_r1 ++ (wsX4_says_r2 ++ wsX4_says_r3)) ++ wsX40 ++ wsX20)
def wsX4_saysBoth_r1 : List Cond := [Cond.fieldLink RX4 167 "GardenRules$Rule" "a" "I", Cond.fieldLink RX4 105 "GardenRules" "failure" "I", Cond.fieldLink RX4 170 "GardenRules$Rule" "b" "I", Cond.methodLink RX4 95 yX4_says, Cond.instanceMethod yX4_says, Cond.selects RX4 yX4_says yX4_says, Cond.initialized RX4, Cond.code yX4_says cX4_says 4 (some .boolean), Cond.fieldLink RX4 164 "GardenRules$Rule" "kind" "I", Cond.methodLink RX4 173 Lib.MathLoose.abs_long.x, Cond.static Lib.MathLoose.abs_long.x, Cond.initialized "java/lang/Math", Cond.code Lib.MathLoose.abs_long.x Lib.MathLoose.abs_long.code 2 (some .long), Cond.fieldLink RX4 179 "GardenRules$Rule" "c" "I", Cond.fieldLink RX4 182 "GardenRules$Rule" "kept" "I", Cond.methodLink RX4 160 yX4_begins, Cond.instanceMethod yX4_begins, Cond.selects RX4 yX4_begins yX4_begins, Cond.code yX4_begins cX4_begins 1 (some .boolean), Cond.fieldLink RX4 99 "GardenRules" "begun" "I", Cond.fieldLink RX4 89 "GardenRules" "begunEver" "I", Cond.methodLink RX4 85 yX4_ruleAt, Cond.instanceMethod yX4_ruleAt, Cond.selects RX4 yX4_ruleAt yX4_ruleAt]
def wsX4_saysBoth_r2 : List Cond := [Cond.code yX4_ruleAt cX4_ruleAt 2 (some (.object "GardenRules$Rule")), Cond.fieldLink RX4 79 "GardenRules" "ruleCount" "I", Cond.fieldLink RX4 23 "GardenRules" "rules" "[LGardenRules$Rule;", Cond.methodLink RX4 61 yX4_reading, Cond.instanceMethod yX4_reading, Cond.selects RX4 yX4_reading yX4_reading, Cond.code yX4_reading cX4_reading 2 (some .int), Cond.fieldLink RX4 9 "GardenRules" "sensors" "[I", Cond.methodLink RX4 185 yX4_saysShare, Cond.instanceMethod yX4_saysShare, Cond.selects RX4 yX4_saysShare yX4_saysShare, Cond.code yX4_saysShare cX4_saysShare 6 (some .boolean), Cond.methodLink RX4 189 yX4_saysPointed, Cond.instanceMethod yX4_saysPointed, Cond.selects RX4 yX4_saysPointed yX4_saysPointed, Cond.code yX4_saysPointed cX4_saysPointed 3 (some .boolean), Cond.methodLink RX4 53 yX4_isSensor, Cond.static yX4_isSensor, Cond.code yX4_isSensor cX4_isSensor 1 (some .boolean), Cond.methodLink RX4 192 yX4_saysBoth, Cond.instanceMethod yX4_saysBoth, Cond.selects RX4 yX4_saysBoth yX4_saysBoth, Cond.methodLink RX4 196 yX4_saysEither, Cond.instanceMethod yX4_saysEither]
def wsX4_saysBoth_r3 : List Cond := [Cond.selects RX4 yX4_saysEither yX4_saysEither, Cond.methodLink RX4 199 yX4_saysOften, Cond.instanceMethod yX4_saysOften, Cond.selects RX4 yX4_saysOften yX4_saysOften, Cond.methodLink RX4 202 yX4_saysElse, Cond.instanceMethod yX4_saysElse, Cond.selects RX4 yX4_saysElse yX4_saysElse, Cond.code yX4_saysEither cX4_saysEither 4 (some .boolean), Cond.code yX4_saysElse cX4_saysElse 4 (some .boolean), Cond.methodLink RX4 208 yX4_canBeCaught, Cond.instanceMethod yX4_canBeCaught, Cond.selects RX4 yX4_canBeCaught yX4_canBeCaught, Cond.code yX4_canBeCaught cX4_canBeCaught 1 (some .boolean), Cond.code yX4_saysOften cX4_saysOften 4 (some .boolean), Cond.fieldLink RX4 205 "GardenRules$Rule" "yeses" "I"]
def wsX4_saysBoth : List Cond := .code yX4_saysBoth cX4_saysBoth 4 (some .boolean) :: ((wsX4_saysBoth_r1 ++ (wsX4_saysBoth_r2 ++ wsX4_saysBoth_r3)) ++ wsX40 ++ wsX20)
def wsX4_saysEither_r1 : List Cond := [Cond.fieldLink RX4 167 "GardenRules$Rule" "a" "I", Cond.fieldLink RX4 105 "GardenRules" "failure" "I", Cond.fieldLink RX4 170 "GardenRules$Rule" "b" "I", Cond.methodLink RX4 95 yX4_says, Cond.instanceMethod yX4_says, Cond.selects RX4 yX4_says yX4_says, Cond.initialized RX4, Cond.code yX4_says cX4_says 4 (some .boolean), Cond.fieldLink RX4 164 "GardenRules$Rule" "kind" "I", Cond.methodLink RX4 173 Lib.MathLoose.abs_long.x, Cond.static Lib.MathLoose.abs_long.x, Cond.initialized "java/lang/Math", Cond.code Lib.MathLoose.abs_long.x Lib.MathLoose.abs_long.code 2 (some .long), Cond.fieldLink RX4 179 "GardenRules$Rule" "c" "I", Cond.fieldLink RX4 182 "GardenRules$Rule" "kept" "I", Cond.methodLink RX4 160 yX4_begins, Cond.instanceMethod yX4_begins, Cond.selects RX4 yX4_begins yX4_begins, Cond.code yX4_begins cX4_begins 1 (some .boolean), Cond.fieldLink RX4 99 "GardenRules" "begun" "I", Cond.fieldLink RX4 89 "GardenRules" "begunEver" "I", Cond.methodLink RX4 85 yX4_ruleAt, Cond.instanceMethod yX4_ruleAt, Cond.selects RX4 yX4_ruleAt yX4_ruleAt]
def wsX4_saysEither_r2 : List Cond := [Cond.code yX4_ruleAt cX4_ruleAt 2 (some (.object "GardenRules$Rule")), Cond.fieldLink RX4 79 "GardenRules" "ruleCount" "I", Cond.fieldLink RX4 23 "GardenRules" "rules" "[LGardenRules$Rule;", Cond.methodLink RX4 61 yX4_reading, Cond.instanceMethod yX4_reading, Cond.selects RX4 yX4_reading yX4_reading, Cond.code yX4_reading cX4_reading 2 (some .int), Cond.fieldLink RX4 9 "GardenRules" "sensors" "[I", Cond.methodLink RX4 185 yX4_saysShare, Cond.instanceMethod yX4_saysShare, Cond.selects RX4 yX4_saysShare yX4_saysShare, Cond.code yX4_saysShare cX4_saysShare 6 (some .boolean), Cond.methodLink RX4 189 yX4_saysPointed, Cond.instanceMethod yX4_saysPointed, Cond.selects RX4 yX4_saysPointed yX4_saysPointed, Cond.code yX4_saysPointed cX4_saysPointed 3 (some .boolean), Cond.methodLink RX4 53 yX4_isSensor, Cond.static yX4_isSensor, Cond.code yX4_isSensor cX4_isSensor 1 (some .boolean), Cond.methodLink RX4 192 yX4_saysBoth, Cond.instanceMethod yX4_saysBoth, Cond.selects RX4 yX4_saysBoth yX4_saysBoth, Cond.methodLink RX4 196 yX4_saysEither, Cond.instanceMethod yX4_saysEither]
def wsX4_saysEither_r3 : List Cond := [Cond.selects RX4 yX4_saysEither yX4_saysEither, Cond.methodLink RX4 199 yX4_saysOften, Cond.instanceMethod yX4_saysOften, Cond.selects RX4 yX4_saysOften yX4_saysOften, Cond.methodLink RX4 202 yX4_saysElse, Cond.instanceMethod yX4_saysElse, Cond.selects RX4 yX4_saysElse yX4_saysElse, Cond.code yX4_saysBoth cX4_saysBoth 4 (some .boolean), Cond.code yX4_saysElse cX4_saysElse 4 (some .boolean), Cond.methodLink RX4 208 yX4_canBeCaught, Cond.instanceMethod yX4_canBeCaught, Cond.selects RX4 yX4_canBeCaught yX4_canBeCaught, Cond.code yX4_canBeCaught cX4_canBeCaught 1 (some .boolean), Cond.code yX4_saysOften cX4_saysOften 4 (some .boolean), Cond.fieldLink RX4 205 "GardenRules$Rule" "yeses" "I"]
def wsX4_saysEither : List Cond := .code yX4_saysEither cX4_saysEither 4 (some .boolean) :: ((wsX4_saysEither_r1 ++ (wsX4_saysEither_r2 ++ wsX4_saysEither_r3)) ++ wsX40 ++ wsX20)
def wsX4_saysElse_r1 : List Cond := [Cond.fieldLink RX4 167 "GardenRules$Rule" "a" "I", Cond.fieldLink RX4 105 "GardenRules" "failure" "I", Cond.fieldLink RX4 170 "GardenRules$Rule" "b" "I", Cond.methodLink RX4 95 yX4_says, Cond.instanceMethod yX4_says, Cond.selects RX4 yX4_says yX4_says, Cond.initialized RX4, Cond.methodLink RX4 208 yX4_canBeCaught, Cond.instanceMethod yX4_canBeCaught, Cond.selects RX4 yX4_canBeCaught yX4_canBeCaught, Cond.code yX4_canBeCaught cX4_canBeCaught 1 (some .boolean), Cond.code yX4_says cX4_says 4 (some .boolean), Cond.fieldLink RX4 164 "GardenRules$Rule" "kind" "I", Cond.methodLink RX4 173 Lib.MathLoose.abs_long.x, Cond.static Lib.MathLoose.abs_long.x, Cond.initialized "java/lang/Math", Cond.code Lib.MathLoose.abs_long.x Lib.MathLoose.abs_long.code 2 (some .long), Cond.fieldLink RX4 179 "GardenRules$Rule" "c" "I", Cond.fieldLink RX4 182 "GardenRules$Rule" "kept" "I", Cond.methodLink RX4 160 yX4_begins, Cond.instanceMethod yX4_begins, Cond.selects RX4 yX4_begins yX4_begins, Cond.code yX4_begins cX4_begins 1 (some .boolean), Cond.fieldLink RX4 99 "GardenRules" "begun" "I"]
def wsX4_saysElse_r2 : List Cond := [Cond.fieldLink RX4 89 "GardenRules" "begunEver" "I", Cond.methodLink RX4 85 yX4_ruleAt, Cond.instanceMethod yX4_ruleAt, Cond.selects RX4 yX4_ruleAt yX4_ruleAt, Cond.code yX4_ruleAt cX4_ruleAt 2 (some (.object "GardenRules$Rule")), Cond.fieldLink RX4 79 "GardenRules" "ruleCount" "I", Cond.fieldLink RX4 23 "GardenRules" "rules" "[LGardenRules$Rule;", Cond.methodLink RX4 61 yX4_reading, Cond.instanceMethod yX4_reading, Cond.selects RX4 yX4_reading yX4_reading, Cond.code yX4_reading cX4_reading 2 (some .int), Cond.fieldLink RX4 9 "GardenRules" "sensors" "[I", Cond.methodLink RX4 185 yX4_saysShare, Cond.instanceMethod yX4_saysShare, Cond.selects RX4 yX4_saysShare yX4_saysShare, Cond.code yX4_saysShare cX4_saysShare 6 (some .boolean), Cond.methodLink RX4 189 yX4_saysPointed, Cond.instanceMethod yX4_saysPointed, Cond.selects RX4 yX4_saysPointed yX4_saysPointed, Cond.code yX4_saysPointed cX4_saysPointed 3 (some .boolean), Cond.methodLink RX4 53 yX4_isSensor, Cond.static yX4_isSensor, Cond.code yX4_isSensor cX4_isSensor 1 (some .boolean), Cond.methodLink RX4 192 yX4_saysBoth]
def wsX4_saysElse_r3 : List Cond := [Cond.instanceMethod yX4_saysBoth, Cond.selects RX4 yX4_saysBoth yX4_saysBoth, Cond.methodLink RX4 196 yX4_saysEither, Cond.instanceMethod yX4_saysEither, Cond.selects RX4 yX4_saysEither yX4_saysEither, Cond.methodLink RX4 199 yX4_saysOften, Cond.instanceMethod yX4_saysOften, Cond.selects RX4 yX4_saysOften yX4_saysOften, Cond.methodLink RX4 202 yX4_saysElse, Cond.instanceMethod yX4_saysElse, Cond.selects RX4 yX4_saysElse yX4_saysElse, Cond.code yX4_saysBoth cX4_saysBoth 4 (some .boolean), Cond.code yX4_saysEither cX4_saysEither 4 (some .boolean), Cond.code yX4_saysOften cX4_saysOften 4 (some .boolean), Cond.fieldLink RX4 205 "GardenRules$Rule" "yeses" "I"]
def wsX4_saysElse : List Cond := .code yX4_saysElse cX4_saysElse 4 (some .boolean) :: ((wsX4_saysElse_r1 ++ (wsX4_saysElse_r2 ++ wsX4_saysElse_r3)) ++ wsX40 ++ wsX20)
def wsX4_saysOften_r1 : List Cond := [Cond.fieldLink RX4 167 "GardenRules$Rule" "a" "I", Cond.fieldLink RX4 105 "GardenRules" "failure" "I", Cond.fieldLink RX4 205 "GardenRules$Rule" "yeses" "I", Cond.fieldLink RX4 170 "GardenRules$Rule" "b" "I", Cond.methodLink RX4 95 yX4_says, Cond.instanceMethod yX4_says, Cond.selects RX4 yX4_says yX4_says, Cond.initialized RX4, Cond.code yX4_says cX4_says 4 (some .boolean), Cond.fieldLink RX4 164 "GardenRules$Rule" "kind" "I", Cond.methodLink RX4 173 Lib.MathLoose.abs_long.x, Cond.static Lib.MathLoose.abs_long.x, Cond.initialized "java/lang/Math", Cond.code Lib.MathLoose.abs_long.x Lib.MathLoose.abs_long.code 2 (some .long), Cond.fieldLink RX4 179 "GardenRules$Rule" "c" "I", Cond.fieldLink RX4 182 "GardenRules$Rule" "kept" "I", Cond.methodLink RX4 160 yX4_begins, Cond.instanceMethod yX4_begins, Cond.selects RX4 yX4_begins yX4_begins, Cond.code yX4_begins cX4_begins 1 (some .boolean), Cond.fieldLink RX4 99 "GardenRules" "begun" "I", Cond.fieldLink RX4 89 "GardenRules" "begunEver" "I", Cond.methodLink RX4 85 yX4_ruleAt, Cond.instanceMethod yX4_ruleAt]
def wsX4_saysOften_r2 : List Cond := [Cond.selects RX4 yX4_ruleAt yX4_ruleAt, Cond.code yX4_ruleAt cX4_ruleAt 2 (some (.object "GardenRules$Rule")), Cond.fieldLink RX4 79 "GardenRules" "ruleCount" "I", Cond.fieldLink RX4 23 "GardenRules" "rules" "[LGardenRules$Rule;", Cond.methodLink RX4 61 yX4_reading, Cond.instanceMethod yX4_reading, Cond.selects RX4 yX4_reading yX4_reading, Cond.code yX4_reading cX4_reading 2 (some .int), Cond.fieldLink RX4 9 "GardenRules" "sensors" "[I", Cond.methodLink RX4 185 yX4_saysShare, Cond.instanceMethod yX4_saysShare, Cond.selects RX4 yX4_saysShare yX4_saysShare, Cond.code yX4_saysShare cX4_saysShare 6 (some .boolean), Cond.methodLink RX4 189 yX4_saysPointed, Cond.instanceMethod yX4_saysPointed, Cond.selects RX4 yX4_saysPointed yX4_saysPointed, Cond.code yX4_saysPointed cX4_saysPointed 3 (some .boolean), Cond.methodLink RX4 53 yX4_isSensor, Cond.static yX4_isSensor, Cond.code yX4_isSensor cX4_isSensor 1 (some .boolean), Cond.methodLink RX4 192 yX4_saysBoth, Cond.instanceMethod yX4_saysBoth, Cond.selects RX4 yX4_saysBoth yX4_saysBoth, Cond.methodLink RX4 196 yX4_saysEither]
def wsX4_saysOften_r3 : List Cond := [Cond.instanceMethod yX4_saysEither, Cond.selects RX4 yX4_saysEither yX4_saysEither, Cond.methodLink RX4 199 yX4_saysOften, Cond.instanceMethod yX4_saysOften, Cond.selects RX4 yX4_saysOften yX4_saysOften, Cond.methodLink RX4 202 yX4_saysElse, Cond.instanceMethod yX4_saysElse, Cond.selects RX4 yX4_saysElse yX4_saysElse, Cond.code yX4_saysBoth cX4_saysBoth 4 (some .boolean), Cond.code yX4_saysEither cX4_saysEither 4 (some .boolean), Cond.code yX4_saysElse cX4_saysElse 4 (some .boolean), Cond.methodLink RX4 208 yX4_canBeCaught, Cond.instanceMethod yX4_canBeCaught, Cond.selects RX4 yX4_canBeCaught yX4_canBeCaught, Cond.code yX4_canBeCaught cX4_canBeCaught 1 (some .boolean)]
def wsX4_saysOften : List Cond := .code yX4_saysOften cX4_saysOften 4 (some .boolean) :: ((wsX4_saysOften_r1 ++ (wsX4_saysOften_r2 ++ wsX4_saysOften_r3)) ++ wsX40 ++ wsX20)
def wsX4_ask_r1 : List Cond := [Cond.fieldLink RX4 89 "GardenRules" "begunEver" "I", Cond.fieldLink RX4 99 "GardenRules" "begun" "I", Cond.fieldLink RX4 102 "GardenRules" "begunLatest" "I", Cond.fieldLink RX4 105 "GardenRules" "failure" "I", Cond.methodLink RX4 85 yX4_ruleAt, Cond.instanceMethod yX4_ruleAt, Cond.selects RX4 yX4_ruleAt yX4_ruleAt, Cond.initialized RX4, Cond.code yX4_ruleAt cX4_ruleAt 2 (some (.object "GardenRules$Rule")), Cond.fieldLink RX4 79 "GardenRules" "ruleCount" "I", Cond.fieldLink RX4 23 "GardenRules" "rules" "[LGardenRules$Rule;", Cond.methodLink RX4 92 yX4_startWork, Cond.instanceMethod yX4_startWork, Cond.selects RX4 yX4_startWork yX4_startWork, Cond.code yX4_startWork cX4_startWork 1 none, Cond.methodLink RX4 95 yX4_says, Cond.instanceMethod yX4_says, Cond.selects RX4 yX4_says yX4_says, Cond.code yX4_says cX4_says 4 (some .boolean), Cond.fieldLink RX4 164 "GardenRules$Rule" "kind" "I", Cond.fieldLink RX4 167 "GardenRules$Rule" "a" "I", Cond.fieldLink RX4 170 "GardenRules$Rule" "b" "I", Cond.methodLink RX4 173 Lib.MathLoose.abs_long.x, Cond.static Lib.MathLoose.abs_long.x]
def wsX4_ask_r2 : List Cond := [Cond.initialized "java/lang/Math", Cond.code Lib.MathLoose.abs_long.x Lib.MathLoose.abs_long.code 2 (some .long), Cond.fieldLink RX4 179 "GardenRules$Rule" "c" "I", Cond.fieldLink RX4 182 "GardenRules$Rule" "kept" "I", Cond.methodLink RX4 160 yX4_begins, Cond.instanceMethod yX4_begins, Cond.selects RX4 yX4_begins yX4_begins, Cond.code yX4_begins cX4_begins 1 (some .boolean), Cond.methodLink RX4 61 yX4_reading, Cond.instanceMethod yX4_reading, Cond.selects RX4 yX4_reading yX4_reading, Cond.code yX4_reading cX4_reading 2 (some .int), Cond.fieldLink RX4 9 "GardenRules" "sensors" "[I", Cond.methodLink RX4 185 yX4_saysShare, Cond.instanceMethod yX4_saysShare, Cond.selects RX4 yX4_saysShare yX4_saysShare, Cond.code yX4_saysShare cX4_saysShare 6 (some .boolean), Cond.methodLink RX4 189 yX4_saysPointed, Cond.instanceMethod yX4_saysPointed, Cond.selects RX4 yX4_saysPointed yX4_saysPointed, Cond.code yX4_saysPointed cX4_saysPointed 3 (some .boolean), Cond.methodLink RX4 53 yX4_isSensor, Cond.static yX4_isSensor, Cond.code yX4_isSensor cX4_isSensor 1 (some .boolean)]
def wsX4_ask_r3 : List Cond := [Cond.methodLink RX4 192 yX4_saysBoth, Cond.instanceMethod yX4_saysBoth, Cond.selects RX4 yX4_saysBoth yX4_saysBoth, Cond.methodLink RX4 196 yX4_saysEither, Cond.instanceMethod yX4_saysEither, Cond.selects RX4 yX4_saysEither yX4_saysEither, Cond.methodLink RX4 199 yX4_saysOften, Cond.instanceMethod yX4_saysOften, Cond.selects RX4 yX4_saysOften yX4_saysOften, Cond.methodLink RX4 202 yX4_saysElse, Cond.instanceMethod yX4_saysElse, Cond.selects RX4 yX4_saysElse yX4_saysElse, Cond.code yX4_saysBoth cX4_saysBoth 4 (some .boolean), Cond.code yX4_saysEither cX4_saysEither 4 (some .boolean), Cond.code yX4_saysElse cX4_saysElse 4 (some .boolean), Cond.methodLink RX4 208 yX4_canBeCaught, Cond.instanceMethod yX4_canBeCaught, Cond.selects RX4 yX4_canBeCaught yX4_canBeCaught, Cond.code yX4_canBeCaught cX4_canBeCaught 1 (some .boolean), Cond.code yX4_saysOften cX4_saysOften 4 (some .boolean), Cond.fieldLink RX4 205 "GardenRules$Rule" "yeses" "I"]
def wsX4_ask : List Cond := .code yX4_ask cX4_ask 3 (some .int) :: ((wsX4_ask_r1 ++ (wsX4_ask_r2 ++ wsX4_ask_r3)) ++ wsX40 ++ wsX20)
def wsX4_actAt : List Cond := .code yX4_actAt cX4_actAt 2 (some (.object "GardenRules$Act")) :: ([.fieldLink RX4 115 "GardenRules" "actCount" "I", .fieldLink RX4 29 "GardenRules" "acts" "[LGardenRules$Act;"] ++ wsX40)
def wsX4_isAct : List Cond := .code yX4_isAct cX4_isAct 2 (some .boolean) :: ([.methodLink RX4 121 yX4_actAt, .instanceMethod yX4_actAt, .selects RX4 yX4_actAt yX4_actAt, .initialized RX4, .code yX4_actAt cX4_actAt 2 (some (.object "GardenRules$Act")), .fieldLink RX4 115 "GardenRules" "actCount" "I", .fieldLink RX4 29 "GardenRules" "acts" "[LGardenRules$Act;"] ++ wsX40)
def wsX4_isActOrNone : List Cond := .code yX4_isActOrNone cX4_isActOrNone 2 (some .boolean) :: ([.methodLink RX4 157 yX4_isAct, .instanceMethod yX4_isAct, .selects RX4 yX4_isAct yX4_isAct, .initialized RX4, .code yX4_isAct cX4_isAct 2 (some .boolean), .methodLink RX4 121 yX4_actAt, .instanceMethod yX4_actAt, .selects RX4 yX4_actAt yX4_actAt, .code yX4_actAt cX4_actAt 2 (some (.object "GardenRules$Act")), .fieldLink RX4 115 "GardenRules" "actCount" "I", .fieldLink RX4 29 "GardenRules" "acts" "[LGardenRules$Act;"] ++ wsX40)
def wsX4_knowsPartsOfAct_r1 : List Cond := [Cond.methodLink RX4 65 yX4_isTank, Cond.static yX4_isTank, Cond.initialized RX4, Cond.code yX4_isTank cX4_isTank 1 (some .boolean), Cond.methodLink RX4 151 yX4_isRule, Cond.instanceMethod yX4_isRule, Cond.selects RX4 yX4_isRule yX4_isRule, Cond.code yX4_isRule cX4_isRule 2 (some .boolean), Cond.methodLink RX4 85 yX4_ruleAt, Cond.instanceMethod yX4_ruleAt, Cond.selects RX4 yX4_ruleAt yX4_ruleAt, Cond.code yX4_ruleAt cX4_ruleAt 2 (some (.object "GardenRules$Rule")), Cond.fieldLink RX4 79 "GardenRules" "ruleCount" "I", Cond.fieldLink RX4 23 "GardenRules" "rules" "[LGardenRules$Rule;", Cond.methodLink RX4 154 yX4_isActOrNone, Cond.instanceMethod yX4_isActOrNone, Cond.selects RX4 yX4_isActOrNone yX4_isActOrNone, Cond.code yX4_isActOrNone cX4_isActOrNone 2 (some .boolean), Cond.methodLink RX4 157 yX4_isAct, Cond.instanceMethod yX4_isAct, Cond.selects RX4 yX4_isAct yX4_isAct, Cond.code yX4_isAct cX4_isAct 2 (some .boolean), Cond.methodLink RX4 121 yX4_actAt, Cond.instanceMethod yX4_actAt]
def wsX4_knowsPartsOfAct_r2 : List Cond := [Cond.selects RX4 yX4_actAt yX4_actAt, Cond.code yX4_actAt cX4_actAt 2 (some (.object "GardenRules$Act")), Cond.fieldLink RX4 115 "GardenRules" "actCount" "I", Cond.fieldLink RX4 29 "GardenRules" "acts" "[LGardenRules$Act;", Cond.methodLink RX4 53 yX4_isSensor, Cond.static yX4_isSensor, Cond.code yX4_isSensor cX4_isSensor 1 (some .boolean)]
def wsX4_knowsPartsOfAct : List Cond := .code yX4_knowsPartsOfAct cX4_knowsPartsOfAct 5 (some .boolean) :: ((wsX4_knowsPartsOfAct_r1 ++ wsX4_knowsPartsOfAct_r2) ++ wsX40)
def wsX4_hasNumbersOfAct : List Cond := .code yX4_hasNumbersOfAct cX4_hasNumbersOfAct 3 (some .boolean) :: ([.methodLink RX4 69 yX4_isWithin, .static yX4_isWithin, .initialized RX4, .code yX4_isWithin cX4_isWithin 3 (some .boolean)])
def wsX4_act_r1 : List Cond := [Cond.fieldLink RX4 115 "GardenRules" "actCount" "I", Cond.fieldLink RX4 29 "GardenRules" "acts" "[LGardenRules$Act;", Cond.classLink RX4 27 RX0, Cond.instantiable RX0 4, Cond.initialized RX0, Cond.methodLink RX4 69 yX4_isWithin, Cond.static yX4_isWithin, Cond.initialized RX4, Cond.code yX4_isWithin cX4_isWithin 3 (some .boolean), Cond.methodLink RX4 108 yX4_knowsPartsOfAct, Cond.instanceMethod yX4_knowsPartsOfAct, Cond.selects RX4 yX4_knowsPartsOfAct yX4_knowsPartsOfAct, Cond.code yX4_knowsPartsOfAct cX4_knowsPartsOfAct 5 (some .boolean), Cond.methodLink RX4 65 yX4_isTank, Cond.static yX4_isTank, Cond.code yX4_isTank cX4_isTank 1 (some .boolean), Cond.methodLink RX4 151 yX4_isRule, Cond.instanceMethod yX4_isRule, Cond.selects RX4 yX4_isRule yX4_isRule, Cond.code yX4_isRule cX4_isRule 2 (some .boolean), Cond.methodLink RX4 85 yX4_ruleAt, Cond.instanceMethod yX4_ruleAt, Cond.selects RX4 yX4_ruleAt yX4_ruleAt, Cond.code yX4_ruleAt cX4_ruleAt 2 (some (.object "GardenRules$Rule"))]
def wsX4_act_r2 : List Cond := [Cond.fieldLink RX4 79 "GardenRules" "ruleCount" "I", Cond.fieldLink RX4 23 "GardenRules" "rules" "[LGardenRules$Rule;", Cond.methodLink RX4 154 yX4_isActOrNone, Cond.instanceMethod yX4_isActOrNone, Cond.selects RX4 yX4_isActOrNone yX4_isActOrNone, Cond.code yX4_isActOrNone cX4_isActOrNone 2 (some .boolean), Cond.methodLink RX4 157 yX4_isAct, Cond.instanceMethod yX4_isAct, Cond.selects RX4 yX4_isAct yX4_isAct, Cond.code yX4_isAct cX4_isAct 2 (some .boolean), Cond.methodLink RX4 121 yX4_actAt, Cond.instanceMethod yX4_actAt, Cond.selects RX4 yX4_actAt yX4_actAt, Cond.code yX4_actAt cX4_actAt 2 (some (.object "GardenRules$Act")), Cond.methodLink RX4 53 yX4_isSensor, Cond.static yX4_isSensor, Cond.code yX4_isSensor cX4_isSensor 1 (some .boolean), Cond.methodLink RX4 112 yX4_hasNumbersOfAct, Cond.static yX4_hasNumbersOfAct, Cond.code yX4_hasNumbersOfAct cX4_hasNumbersOfAct 3 (some .boolean), Cond.methodLink RX4 118 yX0_init, Cond.instanceMethod yX0_init, Cond.code yX0_init cX0_init 5 none, Cond.methodLink RX0 1 objectInit]
def wsX4_act_r3 : List Cond := [Cond.instanceMethod objectInit, Cond.code objectInit ⟨#[0xb1]⟩ 1 none, Cond.fieldLink RX0 7 "GardenRules$Act" "kind" "I", Cond.fieldLink RX0 13 "GardenRules$Act" "a" "I", Cond.fieldLink RX0 16 "GardenRules$Act" "b" "I", Cond.fieldLink RX0 19 "GardenRules$Act" "c" "I"]
def wsX4_act : List Cond := .code yX4_act cX4_act 6 (some .int) :: ((wsX4_act_r1 ++ (wsX4_act_r2 ++ wsX4_act_r3)) ++ wsX40 ++ wsX00)
def wsX4_takesOut : List Cond := .code yX4_takesOut cX4_takesOut 3 (some .boolean) :: ([.fieldLink RX4 13 "GardenRules" "tanks" "[I", .fieldLink RX4 105 "GardenRules" "failure" "I", .methodLink RX4 65 yX4_isTank, .static yX4_isTank, .initialized RX4, .code yX4_isTank cX4_isTank 1 (some .boolean)] ++ wsX40)
def wsX4_doesPour : List Cond := .code yX4_doesPour cX4_doesPour 2 (some .int) :: ([.fieldLink RX4 235 "GardenRules$Act" "a" "I", .fieldLink RX4 239 "GardenRules$Act" "b" "I", .methodLink RX4 240 yX4_takesOut, .instanceMethod yX4_takesOut, .selects RX4 yX4_takesOut yX4_takesOut, .initialized RX4, .code yX4_takesOut cX4_takesOut 3 (some .boolean), .fieldLink RX4 13 "GardenRules" "tanks" "[I", .fieldLink RX4 105 "GardenRules" "failure" "I", .methodLink RX4 65 yX4_isTank, .static yX4_isTank, .code yX4_isTank cX4_isTank 1 (some .boolean)] ++ wsX00 ++ wsX40)
def wsX4_doesMove : List Cond := .code yX4_doesMove cX4_doesMove 2 (some .int) :: ([.fieldLink RX4 239 "GardenRules$Act" "b" "I", .fieldLink RX4 235 "GardenRules$Act" "a" "I", .fieldLink RX4 243 "GardenRules$Act" "c" "I", .fieldLink RX4 13 "GardenRules" "tanks" "[I", .methodLink RX4 65 yX4_isTank, .static yX4_isTank, .initialized RX4, .code yX4_isTank cX4_isTank 1 (some .boolean), .methodLink RX4 240 yX4_takesOut, .instanceMethod yX4_takesOut, .selects RX4 yX4_takesOut yX4_takesOut, .code yX4_takesOut cX4_takesOut 3 (some .boolean), .fieldLink RX4 105 "GardenRules" "failure" "I"] ++ wsX00 ++ wsX40)
def wsX4_doesLater : List Cond := .code yX4_doesLater cX4_doesLater 2 (some .int) :: ([.fieldLink RX4 36 "GardenRules" "waiting" "LGardenRules$Waiting;", .fieldLink RX4 235 "GardenRules$Act" "a" "I", .fieldLink RX4 132 "GardenRules" "time" "I", .fieldLink RX4 239 "GardenRules$Act" "b" "I", .methodLink RX4 244 yX3_join, .instanceMethod yX3_join, .selects RX3 yX3_join yX3_join, .initialized RX3, .code yX3_join cX3_join 3 none, .fieldLink RX3 18 "GardenRules$Waiting" "size" "I", .fieldLink RX3 9 "GardenRules$Waiting" "numbers" "[I", .fieldLink RX3 15 "GardenRules$Waiting" "times" "[I"] ++ wsX40 ++ wsX00 ++ wsX30)
def wsX4_doesShow : List Cond := .code yX4_doesShow cX4_doesShow 2 (some .int) :: ([.fieldLink RX4 235 "GardenRules$Act" "a" "I", .fieldLink RX4 239 "GardenRules$Act" "b" "I", .fieldLink RX4 9 "GardenRules" "sensors" "[I", .fieldLink RX4 13 "GardenRules" "tanks" "[I", .methodLink RX4 53 yX4_isSensor, .static yX4_isSensor, .initialized RX4, .code yX4_isSensor cX4_isSensor 1 (some .boolean), .methodLink RX4 65 yX4_isTank, .static yX4_isTank, .code yX4_isTank cX4_isTank 1 (some .boolean)] ++ wsX00 ++ wsX40)
def wsX4_does_r1 : List Cond := [Cond.fieldLink RX4 105 "GardenRules" "failure" "I", Cond.fieldLink RX4 211 "GardenRules$Act" "kind" "I", Cond.fieldLink RX4 235 "GardenRules$Act" "a" "I", Cond.methodLink RX4 160 yX4_begins, Cond.instanceMethod yX4_begins, Cond.selects RX4 yX4_begins yX4_begins, Cond.initialized RX4, Cond.code yX4_begins cX4_begins 1 (some .boolean), Cond.fieldLink RX4 99 "GardenRules" "begun" "I", Cond.fieldLink RX4 89 "GardenRules" "begunEver" "I", Cond.methodLink RX4 121 yX4_actAt, Cond.instanceMethod yX4_actAt, Cond.selects RX4 yX4_actAt yX4_actAt, Cond.code yX4_actAt cX4_actAt 2 (some (.object "GardenRules$Act")), Cond.fieldLink RX4 115 "GardenRules" "actCount" "I", Cond.fieldLink RX4 29 "GardenRules" "acts" "[LGardenRules$Act;", Cond.methodLink RX4 212 yX4_doesPour, Cond.instanceMethod yX4_doesPour, Cond.selects RX4 yX4_doesPour yX4_doesPour, Cond.code yX4_doesPour cX4_doesPour 2 (some .int), Cond.fieldLink RX4 239 "GardenRules$Act" "b" "I", Cond.methodLink RX4 240 yX4_takesOut, Cond.instanceMethod yX4_takesOut, Cond.selects RX4 yX4_takesOut yX4_takesOut]
def wsX4_does_r2 : List Cond := [Cond.code yX4_takesOut cX4_takesOut 3 (some .boolean), Cond.fieldLink RX4 13 "GardenRules" "tanks" "[I", Cond.methodLink RX4 65 yX4_isTank, Cond.static yX4_isTank, Cond.code yX4_isTank cX4_isTank 1 (some .boolean), Cond.methodLink RX4 216 yX4_doesMove, Cond.instanceMethod yX4_doesMove, Cond.selects RX4 yX4_doesMove yX4_doesMove, Cond.code yX4_doesMove cX4_doesMove 2 (some .int), Cond.fieldLink RX4 243 "GardenRules$Act" "c" "I", Cond.methodLink RX4 219 yX4_doesWhen, Cond.instanceMethod yX4_doesWhen, Cond.selects RX4 yX4_doesWhen yX4_doesWhen, Cond.methodLink RX4 223 yX4_doesThen, Cond.instanceMethod yX4_doesThen, Cond.selects RX4 yX4_doesThen yX4_doesThen, Cond.methodLink RX4 226 yX4_doesTimes, Cond.instanceMethod yX4_doesTimes, Cond.selects RX4 yX4_doesTimes yX4_doesTimes, Cond.methodLink RX4 229 yX4_doesLater, Cond.instanceMethod yX4_doesLater, Cond.selects RX4 yX4_doesLater yX4_doesLater, Cond.code yX4_doesLater cX4_doesLater 2 (some .int), Cond.fieldLink RX4 36 "GardenRules" "waiting" "LGardenRules$Waiting;"]
def wsX4_does_r3 : List Cond := [Cond.fieldLink RX4 132 "GardenRules" "time" "I", Cond.methodLink RX4 244 yX3_join, Cond.instanceMethod yX3_join, Cond.selects RX3 yX3_join yX3_join, Cond.initialized RX3, Cond.code yX3_join cX3_join 3 none, Cond.fieldLink RX3 18 "GardenRules$Waiting" "size" "I", Cond.fieldLink RX3 9 "GardenRules$Waiting" "numbers" "[I", Cond.fieldLink RX3 15 "GardenRules$Waiting" "times" "[I", Cond.methodLink RX4 232 yX4_doesTry, Cond.instanceMethod yX4_doesTry, Cond.selects RX4 yX4_doesTry yX4_doesTry, Cond.methodLink RX4 125 yX4_does, Cond.instanceMethod yX4_does, Cond.selects RX4 yX4_does yX4_does, Cond.methodLink RX4 236 yX4_doesShow, Cond.instanceMethod yX4_doesShow, Cond.selects RX4 yX4_doesShow yX4_doesShow, Cond.code yX4_doesShow cX4_doesShow 2 (some .int), Cond.fieldLink RX4 9 "GardenRules" "sensors" "[I", Cond.methodLink RX4 53 yX4_isSensor, Cond.static yX4_isSensor, Cond.code yX4_isSensor cX4_isSensor 1 (some .boolean), Cond.code yX4_doesThen cX4_doesThen 4 (some .int)]
def wsX4_does_r4 : List Cond := [Cond.code yX4_doesTimes cX4_doesTimes 5 (some .int), Cond.code yX4_doesTry cX4_doesTry 5 (some .int), Cond.fieldLink RX4 18 "GardenRules" "tanksAhead" "[[I", Cond.methodLink RX4 248 arraycopyName, Cond.native arraycopyName, Cond.static arraycopyName, Cond.initialized "java/lang/System", Cond.methodLink RX4 69 yX4_isWithin, Cond.static yX4_isWithin, Cond.code yX4_isWithin cX4_isWithin 3 (some .boolean), Cond.methodLink RX4 208 yX4_canBeCaught, Cond.instanceMethod yX4_canBeCaught, Cond.selects RX4 yX4_canBeCaught yX4_canBeCaught, Cond.code yX4_canBeCaught cX4_canBeCaught 1 (some .boolean), Cond.code yX4_doesWhen cX4_doesWhen 5 (some .int), Cond.methodLink RX4 95 yX4_says, Cond.instanceMethod yX4_says, Cond.selects RX4 yX4_says yX4_says, Cond.code yX4_says cX4_says 4 (some .boolean), Cond.fieldLink RX4 164 "GardenRules$Rule" "kind" "I", Cond.fieldLink RX4 167 "GardenRules$Rule" "a" "I", Cond.fieldLink RX4 170 "GardenRules$Rule" "b" "I", Cond.methodLink RX4 173 Lib.MathLoose.abs_long.x, Cond.static Lib.MathLoose.abs_long.x]
def wsX4_does_r5 : List Cond := [Cond.initialized "java/lang/Math", Cond.code Lib.MathLoose.abs_long.x Lib.MathLoose.abs_long.code 2 (some .long), Cond.fieldLink RX4 179 "GardenRules$Rule" "c" "I", Cond.fieldLink RX4 182 "GardenRules$Rule" "kept" "I", Cond.methodLink RX4 85 yX4_ruleAt, Cond.instanceMethod yX4_ruleAt, Cond.selects RX4 yX4_ruleAt yX4_ruleAt, Cond.code yX4_ruleAt cX4_ruleAt 2 (some (.object "GardenRules$Rule")), Cond.fieldLink RX4 79 "GardenRules" "ruleCount" "I", Cond.fieldLink RX4 23 "GardenRules" "rules" "[LGardenRules$Rule;", Cond.methodLink RX4 61 yX4_reading, Cond.instanceMethod yX4_reading, Cond.selects RX4 yX4_reading yX4_reading, Cond.code yX4_reading cX4_reading 2 (some .int), Cond.methodLink RX4 185 yX4_saysShare, Cond.instanceMethod yX4_saysShare, Cond.selects RX4 yX4_saysShare yX4_saysShare, Cond.code yX4_saysShare cX4_saysShare 6 (some .boolean), Cond.methodLink RX4 189 yX4_saysPointed, Cond.instanceMethod yX4_saysPointed, Cond.selects RX4 yX4_saysPointed yX4_saysPointed, Cond.code yX4_saysPointed cX4_saysPointed 3 (some .boolean), Cond.methodLink RX4 192 yX4_saysBoth, Cond.instanceMethod yX4_saysBoth]
def wsX4_does_r6 : List Cond := [Cond.selects RX4 yX4_saysBoth yX4_saysBoth, Cond.methodLink RX4 196 yX4_saysEither, Cond.instanceMethod yX4_saysEither, Cond.selects RX4 yX4_saysEither yX4_saysEither, Cond.methodLink RX4 199 yX4_saysOften, Cond.instanceMethod yX4_saysOften, Cond.selects RX4 yX4_saysOften yX4_saysOften, Cond.methodLink RX4 202 yX4_saysElse, Cond.instanceMethod yX4_saysElse, Cond.selects RX4 yX4_saysElse yX4_saysElse, Cond.code yX4_saysBoth cX4_saysBoth 4 (some .boolean), Cond.code yX4_saysEither cX4_saysEither 4 (some .boolean), Cond.code yX4_saysElse cX4_saysElse 4 (some .boolean), Cond.code yX4_saysOften cX4_saysOften 4 (some .boolean), Cond.fieldLink RX4 205 "GardenRules$Rule" "yeses" "I"]
def wsX4_does : List Cond := .code yX4_does cX4_does 4 (some .int) :: ((wsX4_does_r1 ++ (wsX4_does_r2 ++ (wsX4_does_r3 ++ (wsX4_does_r4 ++ (wsX4_does_r5 ++ wsX4_does_r6))))) ++ wsX40 ++ wsX00 ++ wsX30 ++ wsX20)
def wsX4_doesThen_r1 : List Cond := [Cond.fieldLink RX4 235 "GardenRules$Act" "a" "I", Cond.fieldLink RX4 105 "GardenRules" "failure" "I", Cond.fieldLink RX4 239 "GardenRules$Act" "b" "I", Cond.methodLink RX4 125 yX4_does, Cond.instanceMethod yX4_does, Cond.selects RX4 yX4_does yX4_does, Cond.initialized RX4, Cond.code yX4_does cX4_does 4 (some .int), Cond.fieldLink RX4 211 "GardenRules$Act" "kind" "I", Cond.methodLink RX4 160 yX4_begins, Cond.instanceMethod yX4_begins, Cond.selects RX4 yX4_begins yX4_begins, Cond.code yX4_begins cX4_begins 1 (some .boolean), Cond.fieldLink RX4 99 "GardenRules" "begun" "I", Cond.fieldLink RX4 89 "GardenRules" "begunEver" "I", Cond.methodLink RX4 121 yX4_actAt, Cond.instanceMethod yX4_actAt, Cond.selects RX4 yX4_actAt yX4_actAt, Cond.code yX4_actAt cX4_actAt 2 (some (.object "GardenRules$Act")), Cond.fieldLink RX4 115 "GardenRules" "actCount" "I", Cond.fieldLink RX4 29 "GardenRules" "acts" "[LGardenRules$Act;", Cond.methodLink RX4 212 yX4_doesPour, Cond.instanceMethod yX4_doesPour, Cond.selects RX4 yX4_doesPour yX4_doesPour]
def wsX4_doesThen_r2 : List Cond := [Cond.code yX4_doesPour cX4_doesPour 2 (some .int), Cond.methodLink RX4 240 yX4_takesOut, Cond.instanceMethod yX4_takesOut, Cond.selects RX4 yX4_takesOut yX4_takesOut, Cond.code yX4_takesOut cX4_takesOut 3 (some .boolean), Cond.fieldLink RX4 13 "GardenRules" "tanks" "[I", Cond.methodLink RX4 65 yX4_isTank, Cond.static yX4_isTank, Cond.code yX4_isTank cX4_isTank 1 (some .boolean), Cond.methodLink RX4 216 yX4_doesMove, Cond.instanceMethod yX4_doesMove, Cond.selects RX4 yX4_doesMove yX4_doesMove, Cond.code yX4_doesMove cX4_doesMove 2 (some .int), Cond.fieldLink RX4 243 "GardenRules$Act" "c" "I", Cond.methodLink RX4 219 yX4_doesWhen, Cond.instanceMethod yX4_doesWhen, Cond.selects RX4 yX4_doesWhen yX4_doesWhen, Cond.methodLink RX4 223 yX4_doesThen, Cond.instanceMethod yX4_doesThen, Cond.selects RX4 yX4_doesThen yX4_doesThen, Cond.methodLink RX4 226 yX4_doesTimes, Cond.instanceMethod yX4_doesTimes, Cond.selects RX4 yX4_doesTimes yX4_doesTimes, Cond.methodLink RX4 229 yX4_doesLater]
def wsX4_doesThen_r3 : List Cond := [Cond.instanceMethod yX4_doesLater, Cond.selects RX4 yX4_doesLater yX4_doesLater, Cond.code yX4_doesLater cX4_doesLater 2 (some .int), Cond.fieldLink RX4 36 "GardenRules" "waiting" "LGardenRules$Waiting;", Cond.fieldLink RX4 132 "GardenRules" "time" "I", Cond.methodLink RX4 244 yX3_join, Cond.instanceMethod yX3_join, Cond.selects RX3 yX3_join yX3_join, Cond.initialized RX3, Cond.code yX3_join cX3_join 3 none, Cond.fieldLink RX3 18 "GardenRules$Waiting" "size" "I", Cond.fieldLink RX3 9 "GardenRules$Waiting" "numbers" "[I", Cond.fieldLink RX3 15 "GardenRules$Waiting" "times" "[I", Cond.methodLink RX4 232 yX4_doesTry, Cond.instanceMethod yX4_doesTry, Cond.selects RX4 yX4_doesTry yX4_doesTry, Cond.methodLink RX4 236 yX4_doesShow, Cond.instanceMethod yX4_doesShow, Cond.selects RX4 yX4_doesShow yX4_doesShow, Cond.code yX4_doesShow cX4_doesShow 2 (some .int), Cond.fieldLink RX4 9 "GardenRules" "sensors" "[I", Cond.methodLink RX4 53 yX4_isSensor, Cond.static yX4_isSensor, Cond.code yX4_isSensor cX4_isSensor 1 (some .boolean)]
def wsX4_doesThen_r4 : List Cond := [Cond.code yX4_doesTimes cX4_doesTimes 5 (some .int), Cond.code yX4_doesTry cX4_doesTry 5 (some .int), Cond.fieldLink RX4 18 "GardenRules" "tanksAhead" "[[I", Cond.methodLink RX4 248 arraycopyName, Cond.native arraycopyName, Cond.static arraycopyName, Cond.initialized "java/lang/System", Cond.methodLink RX4 69 yX4_isWithin, Cond.static yX4_isWithin, Cond.code yX4_isWithin cX4_isWithin 3 (some .boolean), Cond.methodLink RX4 208 yX4_canBeCaught, Cond.instanceMethod yX4_canBeCaught, Cond.selects RX4 yX4_canBeCaught yX4_canBeCaught, Cond.code yX4_canBeCaught cX4_canBeCaught 1 (some .boolean), Cond.code yX4_doesWhen cX4_doesWhen 5 (some .int), Cond.methodLink RX4 95 yX4_says, Cond.instanceMethod yX4_says, Cond.selects RX4 yX4_says yX4_says, Cond.code yX4_says cX4_says 4 (some .boolean), Cond.fieldLink RX4 164 "GardenRules$Rule" "kind" "I", Cond.fieldLink RX4 167 "GardenRules$Rule" "a" "I", Cond.fieldLink RX4 170 "GardenRules$Rule" "b" "I", Cond.methodLink RX4 173 Lib.MathLoose.abs_long.x, Cond.static Lib.MathLoose.abs_long.x]
def wsX4_doesThen_r5 : List Cond := [Cond.initialized "java/lang/Math", Cond.code Lib.MathLoose.abs_long.x Lib.MathLoose.abs_long.code 2 (some .long), Cond.fieldLink RX4 179 "GardenRules$Rule" "c" "I", Cond.fieldLink RX4 182 "GardenRules$Rule" "kept" "I", Cond.methodLink RX4 85 yX4_ruleAt, Cond.instanceMethod yX4_ruleAt, Cond.selects RX4 yX4_ruleAt yX4_ruleAt, Cond.code yX4_ruleAt cX4_ruleAt 2 (some (.object "GardenRules$Rule")), Cond.fieldLink RX4 79 "GardenRules" "ruleCount" "I", Cond.fieldLink RX4 23 "GardenRules" "rules" "[LGardenRules$Rule;", Cond.methodLink RX4 61 yX4_reading, Cond.instanceMethod yX4_reading, Cond.selects RX4 yX4_reading yX4_reading, Cond.code yX4_reading cX4_reading 2 (some .int), Cond.methodLink RX4 185 yX4_saysShare, Cond.instanceMethod yX4_saysShare, Cond.selects RX4 yX4_saysShare yX4_saysShare, Cond.code yX4_saysShare cX4_saysShare 6 (some .boolean), Cond.methodLink RX4 189 yX4_saysPointed, Cond.instanceMethod yX4_saysPointed, Cond.selects RX4 yX4_saysPointed yX4_saysPointed, Cond.code yX4_saysPointed cX4_saysPointed 3 (some .boolean), Cond.methodLink RX4 192 yX4_saysBoth, Cond.instanceMethod yX4_saysBoth]
def wsX4_doesThen_r6 : List Cond := [Cond.selects RX4 yX4_saysBoth yX4_saysBoth, Cond.methodLink RX4 196 yX4_saysEither, Cond.instanceMethod yX4_saysEither, Cond.selects RX4 yX4_saysEither yX4_saysEither, Cond.methodLink RX4 199 yX4_saysOften, Cond.instanceMethod yX4_saysOften, Cond.selects RX4 yX4_saysOften yX4_saysOften, Cond.methodLink RX4 202 yX4_saysElse, Cond.instanceMethod yX4_saysElse, Cond.selects RX4 yX4_saysElse yX4_saysElse, Cond.code yX4_saysBoth cX4_saysBoth 4 (some .boolean), Cond.code yX4_saysEither cX4_saysEither 4 (some .boolean), Cond.code yX4_saysElse cX4_saysElse 4 (some .boolean), Cond.code yX4_saysOften cX4_saysOften 4 (some .boolean), Cond.fieldLink RX4 205 "GardenRules$Rule" "yeses" "I"]
def wsX4_doesThen : List Cond := .code yX4_doesThen cX4_doesThen 4 (some .int) :: ((wsX4_doesThen_r1 ++ (wsX4_doesThen_r2 ++ (wsX4_doesThen_r3 ++ (wsX4_doesThen_r4 ++ (wsX4_doesThen_r5 ++ wsX4_doesThen_r6))))) ++ wsX40 ++ wsX00 ++ wsX30 ++ wsX20)
def wsX4_doesTimes_r1 : List Cond := [Cond.fieldLink RX4 239 "GardenRules$Act" "b" "I", Cond.fieldLink RX4 105 "GardenRules" "failure" "I", Cond.fieldLink RX4 235 "GardenRules$Act" "a" "I", Cond.methodLink RX4 125 yX4_does, Cond.instanceMethod yX4_does, Cond.selects RX4 yX4_does yX4_does, Cond.initialized RX4, Cond.code yX4_does cX4_does 4 (some .int), Cond.fieldLink RX4 211 "GardenRules$Act" "kind" "I", Cond.methodLink RX4 160 yX4_begins, Cond.instanceMethod yX4_begins, Cond.selects RX4 yX4_begins yX4_begins, Cond.code yX4_begins cX4_begins 1 (some .boolean), Cond.fieldLink RX4 99 "GardenRules" "begun" "I", Cond.fieldLink RX4 89 "GardenRules" "begunEver" "I", Cond.methodLink RX4 121 yX4_actAt, Cond.instanceMethod yX4_actAt, Cond.selects RX4 yX4_actAt yX4_actAt, Cond.code yX4_actAt cX4_actAt 2 (some (.object "GardenRules$Act")), Cond.fieldLink RX4 115 "GardenRules" "actCount" "I", Cond.fieldLink RX4 29 "GardenRules" "acts" "[LGardenRules$Act;", Cond.methodLink RX4 212 yX4_doesPour, Cond.instanceMethod yX4_doesPour, Cond.selects RX4 yX4_doesPour yX4_doesPour]
def wsX4_doesTimes_r2 : List Cond := [Cond.code yX4_doesPour cX4_doesPour 2 (some .int), Cond.methodLink RX4 240 yX4_takesOut, Cond.instanceMethod yX4_takesOut, Cond.selects RX4 yX4_takesOut yX4_takesOut, Cond.code yX4_takesOut cX4_takesOut 3 (some .boolean), Cond.fieldLink RX4 13 "GardenRules" "tanks" "[I", Cond.methodLink RX4 65 yX4_isTank, Cond.static yX4_isTank, Cond.code yX4_isTank cX4_isTank 1 (some .boolean), Cond.methodLink RX4 216 yX4_doesMove, Cond.instanceMethod yX4_doesMove, Cond.selects RX4 yX4_doesMove yX4_doesMove, Cond.code yX4_doesMove cX4_doesMove 2 (some .int), Cond.fieldLink RX4 243 "GardenRules$Act" "c" "I", Cond.methodLink RX4 219 yX4_doesWhen, Cond.instanceMethod yX4_doesWhen, Cond.selects RX4 yX4_doesWhen yX4_doesWhen, Cond.methodLink RX4 223 yX4_doesThen, Cond.instanceMethod yX4_doesThen, Cond.selects RX4 yX4_doesThen yX4_doesThen, Cond.methodLink RX4 226 yX4_doesTimes, Cond.instanceMethod yX4_doesTimes, Cond.selects RX4 yX4_doesTimes yX4_doesTimes, Cond.methodLink RX4 229 yX4_doesLater]
def wsX4_doesTimes_r3 : List Cond := [Cond.instanceMethod yX4_doesLater, Cond.selects RX4 yX4_doesLater yX4_doesLater, Cond.code yX4_doesLater cX4_doesLater 2 (some .int), Cond.fieldLink RX4 36 "GardenRules" "waiting" "LGardenRules$Waiting;", Cond.fieldLink RX4 132 "GardenRules" "time" "I", Cond.methodLink RX4 244 yX3_join, Cond.instanceMethod yX3_join, Cond.selects RX3 yX3_join yX3_join, Cond.initialized RX3, Cond.code yX3_join cX3_join 3 none, Cond.fieldLink RX3 18 "GardenRules$Waiting" "size" "I", Cond.fieldLink RX3 9 "GardenRules$Waiting" "numbers" "[I", Cond.fieldLink RX3 15 "GardenRules$Waiting" "times" "[I", Cond.methodLink RX4 232 yX4_doesTry, Cond.instanceMethod yX4_doesTry, Cond.selects RX4 yX4_doesTry yX4_doesTry, Cond.methodLink RX4 236 yX4_doesShow, Cond.instanceMethod yX4_doesShow, Cond.selects RX4 yX4_doesShow yX4_doesShow, Cond.code yX4_doesShow cX4_doesShow 2 (some .int), Cond.fieldLink RX4 9 "GardenRules" "sensors" "[I", Cond.methodLink RX4 53 yX4_isSensor, Cond.static yX4_isSensor, Cond.code yX4_isSensor cX4_isSensor 1 (some .boolean)]
def wsX4_doesTimes_r4 : List Cond := [Cond.code yX4_doesThen cX4_doesThen 4 (some .int), Cond.code yX4_doesTry cX4_doesTry 5 (some .int), Cond.fieldLink RX4 18 "GardenRules" "tanksAhead" "[[I", Cond.methodLink RX4 248 arraycopyName, Cond.native arraycopyName, Cond.static arraycopyName, Cond.initialized "java/lang/System", Cond.methodLink RX4 69 yX4_isWithin, Cond.static yX4_isWithin, Cond.code yX4_isWithin cX4_isWithin 3 (some .boolean), Cond.methodLink RX4 208 yX4_canBeCaught, Cond.instanceMethod yX4_canBeCaught, Cond.selects RX4 yX4_canBeCaught yX4_canBeCaught, Cond.code yX4_canBeCaught cX4_canBeCaught 1 (some .boolean), Cond.code yX4_doesWhen cX4_doesWhen 5 (some .int), Cond.methodLink RX4 95 yX4_says, Cond.instanceMethod yX4_says, Cond.selects RX4 yX4_says yX4_says, Cond.code yX4_says cX4_says 4 (some .boolean), Cond.fieldLink RX4 164 "GardenRules$Rule" "kind" "I", Cond.fieldLink RX4 167 "GardenRules$Rule" "a" "I", Cond.fieldLink RX4 170 "GardenRules$Rule" "b" "I", Cond.methodLink RX4 173 Lib.MathLoose.abs_long.x, Cond.static Lib.MathLoose.abs_long.x]
def wsX4_doesTimes_r5 : List Cond := [Cond.initialized "java/lang/Math", Cond.code Lib.MathLoose.abs_long.x Lib.MathLoose.abs_long.code 2 (some .long), Cond.fieldLink RX4 179 "GardenRules$Rule" "c" "I", Cond.fieldLink RX4 182 "GardenRules$Rule" "kept" "I", Cond.methodLink RX4 85 yX4_ruleAt, Cond.instanceMethod yX4_ruleAt, Cond.selects RX4 yX4_ruleAt yX4_ruleAt, Cond.code yX4_ruleAt cX4_ruleAt 2 (some (.object "GardenRules$Rule")), Cond.fieldLink RX4 79 "GardenRules" "ruleCount" "I", Cond.fieldLink RX4 23 "GardenRules" "rules" "[LGardenRules$Rule;", Cond.methodLink RX4 61 yX4_reading, Cond.instanceMethod yX4_reading, Cond.selects RX4 yX4_reading yX4_reading, Cond.code yX4_reading cX4_reading 2 (some .int), Cond.methodLink RX4 185 yX4_saysShare, Cond.instanceMethod yX4_saysShare, Cond.selects RX4 yX4_saysShare yX4_saysShare, Cond.code yX4_saysShare cX4_saysShare 6 (some .boolean), Cond.methodLink RX4 189 yX4_saysPointed, Cond.instanceMethod yX4_saysPointed, Cond.selects RX4 yX4_saysPointed yX4_saysPointed, Cond.code yX4_saysPointed cX4_saysPointed 3 (some .boolean), Cond.methodLink RX4 192 yX4_saysBoth, Cond.instanceMethod yX4_saysBoth]
def wsX4_doesTimes_r6 : List Cond := [Cond.selects RX4 yX4_saysBoth yX4_saysBoth, Cond.methodLink RX4 196 yX4_saysEither, Cond.instanceMethod yX4_saysEither, Cond.selects RX4 yX4_saysEither yX4_saysEither, Cond.methodLink RX4 199 yX4_saysOften, Cond.instanceMethod yX4_saysOften, Cond.selects RX4 yX4_saysOften yX4_saysOften, Cond.methodLink RX4 202 yX4_saysElse, Cond.instanceMethod yX4_saysElse, Cond.selects RX4 yX4_saysElse yX4_saysElse, Cond.code yX4_saysBoth cX4_saysBoth 4 (some .boolean), Cond.code yX4_saysEither cX4_saysEither 4 (some .boolean), Cond.code yX4_saysElse cX4_saysElse 4 (some .boolean), Cond.code yX4_saysOften cX4_saysOften 4 (some .boolean), Cond.fieldLink RX4 205 "GardenRules$Rule" "yeses" "I"]
def wsX4_doesTimes : List Cond := .code yX4_doesTimes cX4_doesTimes 5 (some .int) :: ((wsX4_doesTimes_r1 ++ (wsX4_doesTimes_r2 ++ (wsX4_doesTimes_r3 ++ (wsX4_doesTimes_r4 ++ (wsX4_doesTimes_r5 ++ wsX4_doesTimes_r6))))) ++ wsX40 ++ wsX00 ++ wsX30 ++ wsX20)
def wsX4_doesTry_r1 : List Cond := [Cond.fieldLink RX4 18 "GardenRules" "tanksAhead" "[[I", Cond.fieldLink RX4 13 "GardenRules" "tanks" "[I", Cond.methodLink RX4 248 arraycopyName, Cond.native arraycopyName, Cond.static arraycopyName, Cond.initialized "java/lang/System", Cond.fieldLink RX4 235 "GardenRules$Act" "a" "I", Cond.fieldLink RX4 105 "GardenRules" "failure" "I", Cond.fieldLink RX4 239 "GardenRules$Act" "b" "I", Cond.methodLink RX4 69 yX4_isWithin, Cond.static yX4_isWithin, Cond.initialized RX4, Cond.code yX4_isWithin cX4_isWithin 3 (some .boolean), Cond.methodLink RX4 125 yX4_does, Cond.instanceMethod yX4_does, Cond.selects RX4 yX4_does yX4_does, Cond.methodLink RX4 208 yX4_canBeCaught, Cond.instanceMethod yX4_canBeCaught, Cond.selects RX4 yX4_canBeCaught yX4_canBeCaught, Cond.code yX4_canBeCaught cX4_canBeCaught 1 (some .boolean), Cond.code yX4_does cX4_does 4 (some .int), Cond.fieldLink RX4 211 "GardenRules$Act" "kind" "I", Cond.methodLink RX4 160 yX4_begins, Cond.instanceMethod yX4_begins]
def wsX4_doesTry_r2 : List Cond := [Cond.selects RX4 yX4_begins yX4_begins, Cond.code yX4_begins cX4_begins 1 (some .boolean), Cond.fieldLink RX4 99 "GardenRules" "begun" "I", Cond.fieldLink RX4 89 "GardenRules" "begunEver" "I", Cond.methodLink RX4 121 yX4_actAt, Cond.instanceMethod yX4_actAt, Cond.selects RX4 yX4_actAt yX4_actAt, Cond.code yX4_actAt cX4_actAt 2 (some (.object "GardenRules$Act")), Cond.fieldLink RX4 115 "GardenRules" "actCount" "I", Cond.fieldLink RX4 29 "GardenRules" "acts" "[LGardenRules$Act;", Cond.methodLink RX4 212 yX4_doesPour, Cond.instanceMethod yX4_doesPour, Cond.selects RX4 yX4_doesPour yX4_doesPour, Cond.code yX4_doesPour cX4_doesPour 2 (some .int), Cond.methodLink RX4 240 yX4_takesOut, Cond.instanceMethod yX4_takesOut, Cond.selects RX4 yX4_takesOut yX4_takesOut, Cond.code yX4_takesOut cX4_takesOut 3 (some .boolean), Cond.methodLink RX4 65 yX4_isTank, Cond.static yX4_isTank, Cond.code yX4_isTank cX4_isTank 1 (some .boolean), Cond.methodLink RX4 216 yX4_doesMove, Cond.instanceMethod yX4_doesMove, Cond.selects RX4 yX4_doesMove yX4_doesMove]
def wsX4_doesTry_r3 : List Cond := [Cond.code yX4_doesMove cX4_doesMove 2 (some .int), Cond.fieldLink RX4 243 "GardenRules$Act" "c" "I", Cond.methodLink RX4 219 yX4_doesWhen, Cond.instanceMethod yX4_doesWhen, Cond.selects RX4 yX4_doesWhen yX4_doesWhen, Cond.methodLink RX4 223 yX4_doesThen, Cond.instanceMethod yX4_doesThen, Cond.selects RX4 yX4_doesThen yX4_doesThen, Cond.methodLink RX4 226 yX4_doesTimes, Cond.instanceMethod yX4_doesTimes, Cond.selects RX4 yX4_doesTimes yX4_doesTimes, Cond.methodLink RX4 229 yX4_doesLater, Cond.instanceMethod yX4_doesLater, Cond.selects RX4 yX4_doesLater yX4_doesLater, Cond.code yX4_doesLater cX4_doesLater 2 (some .int), Cond.fieldLink RX4 36 "GardenRules" "waiting" "LGardenRules$Waiting;", Cond.fieldLink RX4 132 "GardenRules" "time" "I", Cond.methodLink RX4 244 yX3_join, Cond.instanceMethod yX3_join, Cond.selects RX3 yX3_join yX3_join, Cond.initialized RX3, Cond.code yX3_join cX3_join 3 none, Cond.fieldLink RX3 18 "GardenRules$Waiting" "size" "I", Cond.fieldLink RX3 9 "GardenRules$Waiting" "numbers" "[I"]
def wsX4_doesTry_r4 : List Cond := [Cond.fieldLink RX3 15 "GardenRules$Waiting" "times" "[I", Cond.methodLink RX4 232 yX4_doesTry, Cond.instanceMethod yX4_doesTry, Cond.selects RX4 yX4_doesTry yX4_doesTry, Cond.methodLink RX4 236 yX4_doesShow, Cond.instanceMethod yX4_doesShow, Cond.selects RX4 yX4_doesShow yX4_doesShow, Cond.code yX4_doesShow cX4_doesShow 2 (some .int), Cond.fieldLink RX4 9 "GardenRules" "sensors" "[I", Cond.methodLink RX4 53 yX4_isSensor, Cond.static yX4_isSensor, Cond.code yX4_isSensor cX4_isSensor 1 (some .boolean), Cond.code yX4_doesThen cX4_doesThen 4 (some .int), Cond.code yX4_doesTimes cX4_doesTimes 5 (some .int), Cond.code yX4_doesWhen cX4_doesWhen 5 (some .int), Cond.methodLink RX4 95 yX4_says, Cond.instanceMethod yX4_says, Cond.selects RX4 yX4_says yX4_says, Cond.code yX4_says cX4_says 4 (some .boolean), Cond.fieldLink RX4 164 "GardenRules$Rule" "kind" "I", Cond.fieldLink RX4 167 "GardenRules$Rule" "a" "I", Cond.fieldLink RX4 170 "GardenRules$Rule" "b" "I", Cond.methodLink RX4 173 Lib.MathLoose.abs_long.x, Cond.static Lib.MathLoose.abs_long.x]
def wsX4_doesTry_r5 : List Cond := [Cond.initialized "java/lang/Math", Cond.code Lib.MathLoose.abs_long.x Lib.MathLoose.abs_long.code 2 (some .long), Cond.fieldLink RX4 179 "GardenRules$Rule" "c" "I", Cond.fieldLink RX4 182 "GardenRules$Rule" "kept" "I", Cond.methodLink RX4 85 yX4_ruleAt, Cond.instanceMethod yX4_ruleAt, Cond.selects RX4 yX4_ruleAt yX4_ruleAt, Cond.code yX4_ruleAt cX4_ruleAt 2 (some (.object "GardenRules$Rule")), Cond.fieldLink RX4 79 "GardenRules" "ruleCount" "I", Cond.fieldLink RX4 23 "GardenRules" "rules" "[LGardenRules$Rule;", Cond.methodLink RX4 61 yX4_reading, Cond.instanceMethod yX4_reading, Cond.selects RX4 yX4_reading yX4_reading, Cond.code yX4_reading cX4_reading 2 (some .int), Cond.methodLink RX4 185 yX4_saysShare, Cond.instanceMethod yX4_saysShare, Cond.selects RX4 yX4_saysShare yX4_saysShare, Cond.code yX4_saysShare cX4_saysShare 6 (some .boolean), Cond.methodLink RX4 189 yX4_saysPointed, Cond.instanceMethod yX4_saysPointed, Cond.selects RX4 yX4_saysPointed yX4_saysPointed, Cond.code yX4_saysPointed cX4_saysPointed 3 (some .boolean), Cond.methodLink RX4 192 yX4_saysBoth, Cond.instanceMethod yX4_saysBoth]
def wsX4_doesTry_r6 : List Cond := [Cond.selects RX4 yX4_saysBoth yX4_saysBoth, Cond.methodLink RX4 196 yX4_saysEither, Cond.instanceMethod yX4_saysEither, Cond.selects RX4 yX4_saysEither yX4_saysEither, Cond.methodLink RX4 199 yX4_saysOften, Cond.instanceMethod yX4_saysOften, Cond.selects RX4 yX4_saysOften yX4_saysOften, Cond.methodLink RX4 202 yX4_saysElse, Cond.instanceMethod yX4_saysElse, Cond.selects RX4 yX4_saysElse yX4_saysElse, Cond.code yX4_saysBoth cX4_saysBoth 4 (some .boolean), Cond.code yX4_saysEither cX4_saysEither 4 (some .boolean), Cond.code yX4_saysElse cX4_saysElse 4 (some .boolean), Cond.code yX4_saysOften cX4_saysOften 4 (some .boolean), Cond.fieldLink RX4 205 "GardenRules$Rule" "yeses" "I"]
def wsX4_doesTry : List Cond := .code yX4_doesTry cX4_doesTry 5 (some .int) :: ((wsX4_doesTry_r1 ++ (wsX4_doesTry_r2 ++ (wsX4_doesTry_r3 ++ (wsX4_doesTry_r4 ++ (wsX4_doesTry_r5 ++ wsX4_doesTry_r6))))) ++ wsX40 ++ wsX00 ++ wsX30 ++ wsX20)
def wsX4_doesWhen_r1 : List Cond := [Cond.fieldLink RX4 235 "GardenRules$Act" "a" "I", Cond.fieldLink RX4 105 "GardenRules" "failure" "I", Cond.fieldLink RX4 239 "GardenRules$Act" "b" "I", Cond.fieldLink RX4 243 "GardenRules$Act" "c" "I", Cond.methodLink RX4 95 yX4_says, Cond.instanceMethod yX4_says, Cond.selects RX4 yX4_says yX4_says, Cond.initialized RX4, Cond.code yX4_says cX4_says 4 (some .boolean), Cond.fieldLink RX4 164 "GardenRules$Rule" "kind" "I", Cond.fieldLink RX4 167 "GardenRules$Rule" "a" "I", Cond.fieldLink RX4 170 "GardenRules$Rule" "b" "I", Cond.methodLink RX4 173 Lib.MathLoose.abs_long.x, Cond.static Lib.MathLoose.abs_long.x, Cond.initialized "java/lang/Math", Cond.code Lib.MathLoose.abs_long.x Lib.MathLoose.abs_long.code 2 (some .long), Cond.fieldLink RX4 179 "GardenRules$Rule" "c" "I", Cond.fieldLink RX4 182 "GardenRules$Rule" "kept" "I", Cond.methodLink RX4 160 yX4_begins, Cond.instanceMethod yX4_begins, Cond.selects RX4 yX4_begins yX4_begins, Cond.code yX4_begins cX4_begins 1 (some .boolean), Cond.fieldLink RX4 99 "GardenRules" "begun" "I", Cond.fieldLink RX4 89 "GardenRules" "begunEver" "I"]
def wsX4_doesWhen_r2 : List Cond := [Cond.methodLink RX4 85 yX4_ruleAt, Cond.instanceMethod yX4_ruleAt, Cond.selects RX4 yX4_ruleAt yX4_ruleAt, Cond.code yX4_ruleAt cX4_ruleAt 2 (some (.object "GardenRules$Rule")), Cond.fieldLink RX4 79 "GardenRules" "ruleCount" "I", Cond.fieldLink RX4 23 "GardenRules" "rules" "[LGardenRules$Rule;", Cond.methodLink RX4 61 yX4_reading, Cond.instanceMethod yX4_reading, Cond.selects RX4 yX4_reading yX4_reading, Cond.code yX4_reading cX4_reading 2 (some .int), Cond.fieldLink RX4 9 "GardenRules" "sensors" "[I", Cond.methodLink RX4 185 yX4_saysShare, Cond.instanceMethod yX4_saysShare, Cond.selects RX4 yX4_saysShare yX4_saysShare, Cond.code yX4_saysShare cX4_saysShare 6 (some .boolean), Cond.methodLink RX4 189 yX4_saysPointed, Cond.instanceMethod yX4_saysPointed, Cond.selects RX4 yX4_saysPointed yX4_saysPointed, Cond.code yX4_saysPointed cX4_saysPointed 3 (some .boolean), Cond.methodLink RX4 53 yX4_isSensor, Cond.static yX4_isSensor, Cond.code yX4_isSensor cX4_isSensor 1 (some .boolean), Cond.methodLink RX4 192 yX4_saysBoth, Cond.instanceMethod yX4_saysBoth]
def wsX4_doesWhen_r3 : List Cond := [Cond.selects RX4 yX4_saysBoth yX4_saysBoth, Cond.methodLink RX4 196 yX4_saysEither, Cond.instanceMethod yX4_saysEither, Cond.selects RX4 yX4_saysEither yX4_saysEither, Cond.methodLink RX4 199 yX4_saysOften, Cond.instanceMethod yX4_saysOften, Cond.selects RX4 yX4_saysOften yX4_saysOften, Cond.methodLink RX4 202 yX4_saysElse, Cond.instanceMethod yX4_saysElse, Cond.selects RX4 yX4_saysElse yX4_saysElse, Cond.code yX4_saysBoth cX4_saysBoth 4 (some .boolean), Cond.code yX4_saysEither cX4_saysEither 4 (some .boolean), Cond.code yX4_saysElse cX4_saysElse 4 (some .boolean), Cond.methodLink RX4 208 yX4_canBeCaught, Cond.instanceMethod yX4_canBeCaught, Cond.selects RX4 yX4_canBeCaught yX4_canBeCaught, Cond.code yX4_canBeCaught cX4_canBeCaught 1 (some .boolean), Cond.code yX4_saysOften cX4_saysOften 4 (some .boolean), Cond.fieldLink RX4 205 "GardenRules$Rule" "yeses" "I", Cond.methodLink RX4 125 yX4_does, Cond.instanceMethod yX4_does, Cond.selects RX4 yX4_does yX4_does, Cond.code yX4_does cX4_does 4 (some .int), Cond.fieldLink RX4 211 "GardenRules$Act" "kind" "I"]
def wsX4_doesWhen_r4 : List Cond := [Cond.methodLink RX4 121 yX4_actAt, Cond.instanceMethod yX4_actAt, Cond.selects RX4 yX4_actAt yX4_actAt, Cond.code yX4_actAt cX4_actAt 2 (some (.object "GardenRules$Act")), Cond.fieldLink RX4 115 "GardenRules" "actCount" "I", Cond.fieldLink RX4 29 "GardenRules" "acts" "[LGardenRules$Act;", Cond.methodLink RX4 212 yX4_doesPour, Cond.instanceMethod yX4_doesPour, Cond.selects RX4 yX4_doesPour yX4_doesPour, Cond.code yX4_doesPour cX4_doesPour 2 (some .int), Cond.methodLink RX4 240 yX4_takesOut, Cond.instanceMethod yX4_takesOut, Cond.selects RX4 yX4_takesOut yX4_takesOut, Cond.code yX4_takesOut cX4_takesOut 3 (some .boolean), Cond.fieldLink RX4 13 "GardenRules" "tanks" "[I", Cond.methodLink RX4 65 yX4_isTank, Cond.static yX4_isTank, Cond.code yX4_isTank cX4_isTank 1 (some .boolean), Cond.methodLink RX4 216 yX4_doesMove, Cond.instanceMethod yX4_doesMove, Cond.selects RX4 yX4_doesMove yX4_doesMove, Cond.code yX4_doesMove cX4_doesMove 2 (some .int), Cond.methodLink RX4 219 yX4_doesWhen, Cond.instanceMethod yX4_doesWhen]
def wsX4_doesWhen_r5 : List Cond := [Cond.selects RX4 yX4_doesWhen yX4_doesWhen, Cond.methodLink RX4 223 yX4_doesThen, Cond.instanceMethod yX4_doesThen, Cond.selects RX4 yX4_doesThen yX4_doesThen, Cond.methodLink RX4 226 yX4_doesTimes, Cond.instanceMethod yX4_doesTimes, Cond.selects RX4 yX4_doesTimes yX4_doesTimes, Cond.methodLink RX4 229 yX4_doesLater, Cond.instanceMethod yX4_doesLater, Cond.selects RX4 yX4_doesLater yX4_doesLater, Cond.code yX4_doesLater cX4_doesLater 2 (some .int), Cond.fieldLink RX4 36 "GardenRules" "waiting" "LGardenRules$Waiting;", Cond.fieldLink RX4 132 "GardenRules" "time" "I", Cond.methodLink RX4 244 yX3_join, Cond.instanceMethod yX3_join, Cond.selects RX3 yX3_join yX3_join, Cond.initialized RX3, Cond.code yX3_join cX3_join 3 none, Cond.fieldLink RX3 18 "GardenRules$Waiting" "size" "I", Cond.fieldLink RX3 9 "GardenRules$Waiting" "numbers" "[I", Cond.fieldLink RX3 15 "GardenRules$Waiting" "times" "[I", Cond.methodLink RX4 232 yX4_doesTry, Cond.instanceMethod yX4_doesTry, Cond.selects RX4 yX4_doesTry yX4_doesTry]
def wsX4_doesWhen_r6 : List Cond := [Cond.methodLink RX4 236 yX4_doesShow, Cond.instanceMethod yX4_doesShow, Cond.selects RX4 yX4_doesShow yX4_doesShow, Cond.code yX4_doesShow cX4_doesShow 2 (some .int), Cond.code yX4_doesThen cX4_doesThen 4 (some .int), Cond.code yX4_doesTimes cX4_doesTimes 5 (some .int), Cond.code yX4_doesTry cX4_doesTry 5 (some .int), Cond.fieldLink RX4 18 "GardenRules" "tanksAhead" "[[I", Cond.methodLink RX4 248 arraycopyName, Cond.native arraycopyName, Cond.static arraycopyName, Cond.initialized "java/lang/System", Cond.methodLink RX4 69 yX4_isWithin, Cond.static yX4_isWithin, Cond.code yX4_isWithin cX4_isWithin 3 (some .boolean)]
def wsX4_doesWhen : List Cond := .code yX4_doesWhen cX4_doesWhen 5 (some .int) :: ((wsX4_doesWhen_r1 ++ (wsX4_doesWhen_r2 ++ (wsX4_doesWhen_r3 ++ (wsX4_doesWhen_r4 ++ (wsX4_doesWhen_r5 ++ wsX4_doesWhen_r6))))) ++ wsX40 ++ wsX00 ++ wsX30 ++ wsX20)
def wsX4_run_r1 : List Cond := [Cond.fieldLink RX4 89 "GardenRules" "begunEver" "I", Cond.fieldLink RX4 99 "GardenRules" "begun" "I", Cond.fieldLink RX4 102 "GardenRules" "begunLatest" "I", Cond.fieldLink RX4 105 "GardenRules" "failure" "I", Cond.fieldLink RX4 129 "GardenRules" "latestAmount" "I", Cond.methodLink RX4 121 yX4_actAt, Cond.instanceMethod yX4_actAt, Cond.selects RX4 yX4_actAt yX4_actAt, Cond.initialized RX4, Cond.code yX4_actAt cX4_actAt 2 (some (.object "GardenRules$Act")), Cond.fieldLink RX4 115 "GardenRules" "actCount" "I", Cond.fieldLink RX4 29 "GardenRules" "acts" "[LGardenRules$Act;", Cond.methodLink RX4 92 yX4_startWork, Cond.instanceMethod yX4_startWork, Cond.selects RX4 yX4_startWork yX4_startWork, Cond.code yX4_startWork cX4_startWork 1 none, Cond.methodLink RX4 125 yX4_does, Cond.instanceMethod yX4_does, Cond.selects RX4 yX4_does yX4_does, Cond.code yX4_does cX4_does 4 (some .int), Cond.fieldLink RX4 211 "GardenRules$Act" "kind" "I", Cond.fieldLink RX4 235 "GardenRules$Act" "a" "I", Cond.methodLink RX4 160 yX4_begins, Cond.instanceMethod yX4_begins]
def wsX4_run_r2 : List Cond := [Cond.selects RX4 yX4_begins yX4_begins, Cond.code yX4_begins cX4_begins 1 (some .boolean), Cond.methodLink RX4 212 yX4_doesPour, Cond.instanceMethod yX4_doesPour, Cond.selects RX4 yX4_doesPour yX4_doesPour, Cond.code yX4_doesPour cX4_doesPour 2 (some .int), Cond.fieldLink RX4 239 "GardenRules$Act" "b" "I", Cond.methodLink RX4 240 yX4_takesOut, Cond.instanceMethod yX4_takesOut, Cond.selects RX4 yX4_takesOut yX4_takesOut, Cond.code yX4_takesOut cX4_takesOut 3 (some .boolean), Cond.fieldLink RX4 13 "GardenRules" "tanks" "[I", Cond.methodLink RX4 65 yX4_isTank, Cond.static yX4_isTank, Cond.code yX4_isTank cX4_isTank 1 (some .boolean), Cond.methodLink RX4 216 yX4_doesMove, Cond.instanceMethod yX4_doesMove, Cond.selects RX4 yX4_doesMove yX4_doesMove, Cond.code yX4_doesMove cX4_doesMove 2 (some .int), Cond.fieldLink RX4 243 "GardenRules$Act" "c" "I", Cond.methodLink RX4 219 yX4_doesWhen, Cond.instanceMethod yX4_doesWhen, Cond.selects RX4 yX4_doesWhen yX4_doesWhen, Cond.methodLink RX4 223 yX4_doesThen]
def wsX4_run_r3 : List Cond := [Cond.instanceMethod yX4_doesThen, Cond.selects RX4 yX4_doesThen yX4_doesThen, Cond.methodLink RX4 226 yX4_doesTimes, Cond.instanceMethod yX4_doesTimes, Cond.selects RX4 yX4_doesTimes yX4_doesTimes, Cond.methodLink RX4 229 yX4_doesLater, Cond.instanceMethod yX4_doesLater, Cond.selects RX4 yX4_doesLater yX4_doesLater, Cond.code yX4_doesLater cX4_doesLater 2 (some .int), Cond.fieldLink RX4 36 "GardenRules" "waiting" "LGardenRules$Waiting;", Cond.fieldLink RX4 132 "GardenRules" "time" "I", Cond.methodLink RX4 244 yX3_join, Cond.instanceMethod yX3_join, Cond.selects RX3 yX3_join yX3_join, Cond.initialized RX3, Cond.code yX3_join cX3_join 3 none, Cond.fieldLink RX3 18 "GardenRules$Waiting" "size" "I", Cond.fieldLink RX3 9 "GardenRules$Waiting" "numbers" "[I", Cond.fieldLink RX3 15 "GardenRules$Waiting" "times" "[I", Cond.methodLink RX4 232 yX4_doesTry, Cond.instanceMethod yX4_doesTry, Cond.selects RX4 yX4_doesTry yX4_doesTry, Cond.methodLink RX4 236 yX4_doesShow, Cond.instanceMethod yX4_doesShow]
def wsX4_run_r4 : List Cond := [Cond.selects RX4 yX4_doesShow yX4_doesShow, Cond.code yX4_doesShow cX4_doesShow 2 (some .int), Cond.fieldLink RX4 9 "GardenRules" "sensors" "[I", Cond.methodLink RX4 53 yX4_isSensor, Cond.static yX4_isSensor, Cond.code yX4_isSensor cX4_isSensor 1 (some .boolean), Cond.code yX4_doesThen cX4_doesThen 4 (some .int), Cond.code yX4_doesTimes cX4_doesTimes 5 (some .int), Cond.code yX4_doesTry cX4_doesTry 5 (some .int), Cond.fieldLink RX4 18 "GardenRules" "tanksAhead" "[[I", Cond.methodLink RX4 248 arraycopyName, Cond.native arraycopyName, Cond.static arraycopyName, Cond.initialized "java/lang/System", Cond.methodLink RX4 69 yX4_isWithin, Cond.static yX4_isWithin, Cond.code yX4_isWithin cX4_isWithin 3 (some .boolean), Cond.methodLink RX4 208 yX4_canBeCaught, Cond.instanceMethod yX4_canBeCaught, Cond.selects RX4 yX4_canBeCaught yX4_canBeCaught, Cond.code yX4_canBeCaught cX4_canBeCaught 1 (some .boolean), Cond.code yX4_doesWhen cX4_doesWhen 5 (some .int), Cond.methodLink RX4 95 yX4_says, Cond.instanceMethod yX4_says]
def wsX4_run_r5 : List Cond := [Cond.selects RX4 yX4_says yX4_says, Cond.code yX4_says cX4_says 4 (some .boolean), Cond.fieldLink RX4 164 "GardenRules$Rule" "kind" "I", Cond.fieldLink RX4 167 "GardenRules$Rule" "a" "I", Cond.fieldLink RX4 170 "GardenRules$Rule" "b" "I", Cond.methodLink RX4 173 Lib.MathLoose.abs_long.x, Cond.static Lib.MathLoose.abs_long.x, Cond.initialized "java/lang/Math", Cond.code Lib.MathLoose.abs_long.x Lib.MathLoose.abs_long.code 2 (some .long), Cond.fieldLink RX4 179 "GardenRules$Rule" "c" "I", Cond.fieldLink RX4 182 "GardenRules$Rule" "kept" "I", Cond.methodLink RX4 85 yX4_ruleAt, Cond.instanceMethod yX4_ruleAt, Cond.selects RX4 yX4_ruleAt yX4_ruleAt, Cond.code yX4_ruleAt cX4_ruleAt 2 (some (.object "GardenRules$Rule")), Cond.fieldLink RX4 79 "GardenRules" "ruleCount" "I", Cond.fieldLink RX4 23 "GardenRules" "rules" "[LGardenRules$Rule;", Cond.methodLink RX4 61 yX4_reading, Cond.instanceMethod yX4_reading, Cond.selects RX4 yX4_reading yX4_reading, Cond.code yX4_reading cX4_reading 2 (some .int), Cond.methodLink RX4 185 yX4_saysShare, Cond.instanceMethod yX4_saysShare, Cond.selects RX4 yX4_saysShare yX4_saysShare]
def wsX4_run_r6 : List Cond := [Cond.code yX4_saysShare cX4_saysShare 6 (some .boolean), Cond.methodLink RX4 189 yX4_saysPointed, Cond.instanceMethod yX4_saysPointed, Cond.selects RX4 yX4_saysPointed yX4_saysPointed, Cond.code yX4_saysPointed cX4_saysPointed 3 (some .boolean), Cond.methodLink RX4 192 yX4_saysBoth, Cond.instanceMethod yX4_saysBoth, Cond.selects RX4 yX4_saysBoth yX4_saysBoth, Cond.methodLink RX4 196 yX4_saysEither, Cond.instanceMethod yX4_saysEither, Cond.selects RX4 yX4_saysEither yX4_saysEither, Cond.methodLink RX4 199 yX4_saysOften, Cond.instanceMethod yX4_saysOften, Cond.selects RX4 yX4_saysOften yX4_saysOften, Cond.methodLink RX4 202 yX4_saysElse, Cond.instanceMethod yX4_saysElse, Cond.selects RX4 yX4_saysElse yX4_saysElse, Cond.code yX4_saysBoth cX4_saysBoth 4 (some .boolean), Cond.code yX4_saysEither cX4_saysEither 4 (some .boolean), Cond.code yX4_saysElse cX4_saysElse 4 (some .boolean), Cond.code yX4_saysOften cX4_saysOften 4 (some .boolean), Cond.fieldLink RX4 205 "GardenRules$Rule" "yeses" "I"]
def wsX4_run : List Cond := .code yX4_run cX4_run 3 (some .int) :: ((wsX4_run_r1 ++ (wsX4_run_r2 ++ (wsX4_run_r3 ++ (wsX4_run_r4 ++ (wsX4_run_r5 ++ wsX4_run_r6))))) ++ wsX40 ++ wsX00 ++ wsX30 ++ wsX20)
def wsX4_amount : List Cond := .code yX4_amount cX4_amount 1 (some .int) :: ([.fieldLink RX4 129 "GardenRules" "latestAmount" "I"] ++ wsX40)
def wsX4_doOneThatWaited_r1 : List Cond := [Cond.fieldLink RX4 105 "GardenRules" "failure" "I", Cond.fieldLink RX4 43 "GardenRules" "failures" "LGardenRules$Failures;", Cond.fieldLink RX4 132 "GardenRules" "time" "I", Cond.methodLink RX4 92 yX4_startWork, Cond.instanceMethod yX4_startWork, Cond.selects RX4 yX4_startWork yX4_startWork, Cond.initialized RX4, Cond.code yX4_startWork cX4_startWork 1 none, Cond.fieldLink RX4 99 "GardenRules" "begun" "I", Cond.methodLink RX4 125 yX4_does, Cond.instanceMethod yX4_does, Cond.selects RX4 yX4_does yX4_does, Cond.code yX4_does cX4_does 4 (some .int), Cond.fieldLink RX4 211 "GardenRules$Act" "kind" "I", Cond.fieldLink RX4 235 "GardenRules$Act" "a" "I", Cond.methodLink RX4 160 yX4_begins, Cond.instanceMethod yX4_begins, Cond.selects RX4 yX4_begins yX4_begins, Cond.code yX4_begins cX4_begins 1 (some .boolean), Cond.fieldLink RX4 89 "GardenRules" "begunEver" "I", Cond.methodLink RX4 121 yX4_actAt, Cond.instanceMethod yX4_actAt, Cond.selects RX4 yX4_actAt yX4_actAt, Cond.code yX4_actAt cX4_actAt 2 (some (.object "GardenRules$Act"))]
def wsX4_doOneThatWaited_r2 : List Cond := [Cond.fieldLink RX4 115 "GardenRules" "actCount" "I", Cond.fieldLink RX4 29 "GardenRules" "acts" "[LGardenRules$Act;", Cond.methodLink RX4 212 yX4_doesPour, Cond.instanceMethod yX4_doesPour, Cond.selects RX4 yX4_doesPour yX4_doesPour, Cond.code yX4_doesPour cX4_doesPour 2 (some .int), Cond.fieldLink RX4 239 "GardenRules$Act" "b" "I", Cond.methodLink RX4 240 yX4_takesOut, Cond.instanceMethod yX4_takesOut, Cond.selects RX4 yX4_takesOut yX4_takesOut, Cond.code yX4_takesOut cX4_takesOut 3 (some .boolean), Cond.fieldLink RX4 13 "GardenRules" "tanks" "[I", Cond.methodLink RX4 65 yX4_isTank, Cond.static yX4_isTank, Cond.code yX4_isTank cX4_isTank 1 (some .boolean), Cond.methodLink RX4 216 yX4_doesMove, Cond.instanceMethod yX4_doesMove, Cond.selects RX4 yX4_doesMove yX4_doesMove, Cond.code yX4_doesMove cX4_doesMove 2 (some .int), Cond.fieldLink RX4 243 "GardenRules$Act" "c" "I", Cond.methodLink RX4 219 yX4_doesWhen, Cond.instanceMethod yX4_doesWhen, Cond.selects RX4 yX4_doesWhen yX4_doesWhen, Cond.methodLink RX4 223 yX4_doesThen]
def wsX4_doOneThatWaited_r3 : List Cond := [Cond.instanceMethod yX4_doesThen, Cond.selects RX4 yX4_doesThen yX4_doesThen, Cond.methodLink RX4 226 yX4_doesTimes, Cond.instanceMethod yX4_doesTimes, Cond.selects RX4 yX4_doesTimes yX4_doesTimes, Cond.methodLink RX4 229 yX4_doesLater, Cond.instanceMethod yX4_doesLater, Cond.selects RX4 yX4_doesLater yX4_doesLater, Cond.code yX4_doesLater cX4_doesLater 2 (some .int), Cond.fieldLink RX4 36 "GardenRules" "waiting" "LGardenRules$Waiting;", Cond.methodLink RX4 244 yX3_join, Cond.instanceMethod yX3_join, Cond.selects RX3 yX3_join yX3_join, Cond.initialized RX3, Cond.code yX3_join cX3_join 3 none, Cond.fieldLink RX3 18 "GardenRules$Waiting" "size" "I", Cond.fieldLink RX3 9 "GardenRules$Waiting" "numbers" "[I", Cond.fieldLink RX3 15 "GardenRules$Waiting" "times" "[I", Cond.methodLink RX4 232 yX4_doesTry, Cond.instanceMethod yX4_doesTry, Cond.selects RX4 yX4_doesTry yX4_doesTry, Cond.methodLink RX4 236 yX4_doesShow, Cond.instanceMethod yX4_doesShow, Cond.selects RX4 yX4_doesShow yX4_doesShow]
def wsX4_doOneThatWaited_r4 : List Cond := [Cond.code yX4_doesShow cX4_doesShow 2 (some .int), Cond.fieldLink RX4 9 "GardenRules" "sensors" "[I", Cond.methodLink RX4 53 yX4_isSensor, Cond.static yX4_isSensor, Cond.code yX4_isSensor cX4_isSensor 1 (some .boolean), Cond.code yX4_doesThen cX4_doesThen 4 (some .int), Cond.code yX4_doesTimes cX4_doesTimes 5 (some .int), Cond.code yX4_doesTry cX4_doesTry 5 (some .int), Cond.fieldLink RX4 18 "GardenRules" "tanksAhead" "[[I", Cond.methodLink RX4 248 arraycopyName, Cond.native arraycopyName, Cond.static arraycopyName, Cond.initialized "java/lang/System", Cond.methodLink RX4 69 yX4_isWithin, Cond.static yX4_isWithin, Cond.code yX4_isWithin cX4_isWithin 3 (some .boolean), Cond.methodLink RX4 208 yX4_canBeCaught, Cond.instanceMethod yX4_canBeCaught, Cond.selects RX4 yX4_canBeCaught yX4_canBeCaught, Cond.code yX4_canBeCaught cX4_canBeCaught 1 (some .boolean), Cond.code yX4_doesWhen cX4_doesWhen 5 (some .int), Cond.methodLink RX4 95 yX4_says, Cond.instanceMethod yX4_says, Cond.selects RX4 yX4_says yX4_says]
def wsX4_doOneThatWaited_r5 : List Cond := [Cond.code yX4_says cX4_says 4 (some .boolean), Cond.fieldLink RX4 164 "GardenRules$Rule" "kind" "I", Cond.fieldLink RX4 167 "GardenRules$Rule" "a" "I", Cond.fieldLink RX4 170 "GardenRules$Rule" "b" "I", Cond.methodLink RX4 173 Lib.MathLoose.abs_long.x, Cond.static Lib.MathLoose.abs_long.x, Cond.initialized "java/lang/Math", Cond.code Lib.MathLoose.abs_long.x Lib.MathLoose.abs_long.code 2 (some .long), Cond.fieldLink RX4 179 "GardenRules$Rule" "c" "I", Cond.fieldLink RX4 182 "GardenRules$Rule" "kept" "I", Cond.methodLink RX4 85 yX4_ruleAt, Cond.instanceMethod yX4_ruleAt, Cond.selects RX4 yX4_ruleAt yX4_ruleAt, Cond.code yX4_ruleAt cX4_ruleAt 2 (some (.object "GardenRules$Rule")), Cond.fieldLink RX4 79 "GardenRules" "ruleCount" "I", Cond.fieldLink RX4 23 "GardenRules" "rules" "[LGardenRules$Rule;", Cond.methodLink RX4 61 yX4_reading, Cond.instanceMethod yX4_reading, Cond.selects RX4 yX4_reading yX4_reading, Cond.code yX4_reading cX4_reading 2 (some .int), Cond.methodLink RX4 185 yX4_saysShare, Cond.instanceMethod yX4_saysShare, Cond.selects RX4 yX4_saysShare yX4_saysShare, Cond.code yX4_saysShare cX4_saysShare 6 (some .boolean)]
def wsX4_doOneThatWaited_r6 : List Cond := [Cond.methodLink RX4 189 yX4_saysPointed, Cond.instanceMethod yX4_saysPointed, Cond.selects RX4 yX4_saysPointed yX4_saysPointed, Cond.code yX4_saysPointed cX4_saysPointed 3 (some .boolean), Cond.methodLink RX4 192 yX4_saysBoth, Cond.instanceMethod yX4_saysBoth, Cond.selects RX4 yX4_saysBoth yX4_saysBoth, Cond.methodLink RX4 196 yX4_saysEither, Cond.instanceMethod yX4_saysEither, Cond.selects RX4 yX4_saysEither yX4_saysEither, Cond.methodLink RX4 199 yX4_saysOften, Cond.instanceMethod yX4_saysOften, Cond.selects RX4 yX4_saysOften yX4_saysOften, Cond.methodLink RX4 202 yX4_saysElse, Cond.instanceMethod yX4_saysElse, Cond.selects RX4 yX4_saysElse yX4_saysElse, Cond.code yX4_saysBoth cX4_saysBoth 4 (some .boolean), Cond.code yX4_saysEither cX4_saysEither 4 (some .boolean), Cond.code yX4_saysElse cX4_saysElse 4 (some .boolean), Cond.code yX4_saysOften cX4_saysOften 4 (some .boolean), Cond.fieldLink RX4 205 "GardenRules$Rule" "yeses" "I", Cond.methodLink RX4 261 yX1_keep, Cond.instanceMethod yX1_keep, Cond.selects RX1 yX1_keep yX1_keep]
def wsX4_doOneThatWaited_r7 : List Cond := [Cond.initialized RX1, Cond.code yX1_keep cX1_keep 4 none, Cond.fieldLink RX1 21 "GardenRules$Failures" "size" "I", Cond.fieldLink RX1 9 "GardenRules$Failures" "numbers" "[I", Cond.fieldLink RX1 15 "GardenRules$Failures" "kinds" "[I", Cond.fieldLink RX1 18 "GardenRules$Failures" "times" "[I"]
def wsX4_doOneThatWaited : List Cond := .code yX4_doOneThatWaited cX4_doOneThatWaited 2 none :: ((wsX4_doOneThatWaited_r1 ++ (wsX4_doOneThatWaited_r2 ++ (wsX4_doOneThatWaited_r3 ++ (wsX4_doOneThatWaited_r4 ++ (wsX4_doOneThatWaited_r5 ++ (wsX4_doOneThatWaited_r6 ++ wsX4_doOneThatWaited_r7)))))) ++ wsX40 ++ wsX00 ++ wsX30 ++ wsX20 ++ wsX10)
def wsX4_doThoseDue_r1 : List Cond := [Cond.fieldLink RX4 89 "GardenRules" "begunEver" "I", Cond.fieldLink RX4 36 "GardenRules" "waiting" "LGardenRules$Waiting;", Cond.fieldLink RX4 132 "GardenRules" "time" "I", Cond.methodLink RX4 254 yX3_takeFirstFor, Cond.instanceMethod yX3_takeFirstFor, Cond.selects RX3 yX3_takeFirstFor yX3_takeFirstFor, Cond.initialized RX3, Cond.code yX3_takeFirstFor cX3_takeFirstFor 4 (some .int), Cond.fieldLink RX3 18 "GardenRules$Waiting" "size" "I", Cond.fieldLink RX3 15 "GardenRules$Waiting" "times" "[I", Cond.fieldLink RX3 9 "GardenRules$Waiting" "numbers" "[I", Cond.methodLink RX3 22 yX3_closeGapAt, Cond.instanceMethod yX3_closeGapAt, Cond.selects RX3 yX3_closeGapAt yX3_closeGapAt, Cond.code yX3_closeGapAt cX3_closeGapAt 3 none, Cond.methodLink RX4 257 yX4_doOneThatWaited, Cond.instanceMethod yX4_doOneThatWaited, Cond.selects RX4 yX4_doOneThatWaited yX4_doOneThatWaited, Cond.initialized RX4, Cond.code yX4_doOneThatWaited cX4_doOneThatWaited 2 none, Cond.fieldLink RX4 105 "GardenRules" "failure" "I", Cond.fieldLink RX4 43 "GardenRules" "failures" "LGardenRules$Failures;", Cond.methodLink RX4 92 yX4_startWork, Cond.instanceMethod yX4_startWork]
def wsX4_doThoseDue_r2 : List Cond := [Cond.selects RX4 yX4_startWork yX4_startWork, Cond.code yX4_startWork cX4_startWork 1 none, Cond.fieldLink RX4 99 "GardenRules" "begun" "I", Cond.methodLink RX4 125 yX4_does, Cond.instanceMethod yX4_does, Cond.selects RX4 yX4_does yX4_does, Cond.code yX4_does cX4_does 4 (some .int), Cond.fieldLink RX4 211 "GardenRules$Act" "kind" "I", Cond.fieldLink RX4 235 "GardenRules$Act" "a" "I", Cond.methodLink RX4 160 yX4_begins, Cond.instanceMethod yX4_begins, Cond.selects RX4 yX4_begins yX4_begins, Cond.code yX4_begins cX4_begins 1 (some .boolean), Cond.methodLink RX4 121 yX4_actAt, Cond.instanceMethod yX4_actAt, Cond.selects RX4 yX4_actAt yX4_actAt, Cond.code yX4_actAt cX4_actAt 2 (some (.object "GardenRules$Act")), Cond.fieldLink RX4 115 "GardenRules" "actCount" "I", Cond.fieldLink RX4 29 "GardenRules" "acts" "[LGardenRules$Act;", Cond.methodLink RX4 212 yX4_doesPour, Cond.instanceMethod yX4_doesPour, Cond.selects RX4 yX4_doesPour yX4_doesPour, Cond.code yX4_doesPour cX4_doesPour 2 (some .int), Cond.fieldLink RX4 239 "GardenRules$Act" "b" "I"]
def wsX4_doThoseDue_r3 : List Cond := [Cond.methodLink RX4 240 yX4_takesOut, Cond.instanceMethod yX4_takesOut, Cond.selects RX4 yX4_takesOut yX4_takesOut, Cond.code yX4_takesOut cX4_takesOut 3 (some .boolean), Cond.fieldLink RX4 13 "GardenRules" "tanks" "[I", Cond.methodLink RX4 65 yX4_isTank, Cond.static yX4_isTank, Cond.code yX4_isTank cX4_isTank 1 (some .boolean), Cond.methodLink RX4 216 yX4_doesMove, Cond.instanceMethod yX4_doesMove, Cond.selects RX4 yX4_doesMove yX4_doesMove, Cond.code yX4_doesMove cX4_doesMove 2 (some .int), Cond.fieldLink RX4 243 "GardenRules$Act" "c" "I", Cond.methodLink RX4 219 yX4_doesWhen, Cond.instanceMethod yX4_doesWhen, Cond.selects RX4 yX4_doesWhen yX4_doesWhen, Cond.methodLink RX4 223 yX4_doesThen, Cond.instanceMethod yX4_doesThen, Cond.selects RX4 yX4_doesThen yX4_doesThen, Cond.methodLink RX4 226 yX4_doesTimes, Cond.instanceMethod yX4_doesTimes, Cond.selects RX4 yX4_doesTimes yX4_doesTimes, Cond.methodLink RX4 229 yX4_doesLater, Cond.instanceMethod yX4_doesLater]
def wsX4_doThoseDue_r4 : List Cond := [Cond.selects RX4 yX4_doesLater yX4_doesLater, Cond.code yX4_doesLater cX4_doesLater 2 (some .int), Cond.methodLink RX4 244 yX3_join, Cond.instanceMethod yX3_join, Cond.selects RX3 yX3_join yX3_join, Cond.code yX3_join cX3_join 3 none, Cond.methodLink RX4 232 yX4_doesTry, Cond.instanceMethod yX4_doesTry, Cond.selects RX4 yX4_doesTry yX4_doesTry, Cond.methodLink RX4 236 yX4_doesShow, Cond.instanceMethod yX4_doesShow, Cond.selects RX4 yX4_doesShow yX4_doesShow, Cond.code yX4_doesShow cX4_doesShow 2 (some .int), Cond.fieldLink RX4 9 "GardenRules" "sensors" "[I", Cond.methodLink RX4 53 yX4_isSensor, Cond.static yX4_isSensor, Cond.code yX4_isSensor cX4_isSensor 1 (some .boolean), Cond.code yX4_doesThen cX4_doesThen 4 (some .int), Cond.code yX4_doesTimes cX4_doesTimes 5 (some .int), Cond.code yX4_doesTry cX4_doesTry 5 (some .int), Cond.fieldLink RX4 18 "GardenRules" "tanksAhead" "[[I", Cond.methodLink RX4 248 arraycopyName, Cond.native arraycopyName, Cond.static arraycopyName]
def wsX4_doThoseDue_r5 : List Cond := [Cond.initialized "java/lang/System", Cond.methodLink RX4 69 yX4_isWithin, Cond.static yX4_isWithin, Cond.code yX4_isWithin cX4_isWithin 3 (some .boolean), Cond.methodLink RX4 208 yX4_canBeCaught, Cond.instanceMethod yX4_canBeCaught, Cond.selects RX4 yX4_canBeCaught yX4_canBeCaught, Cond.code yX4_canBeCaught cX4_canBeCaught 1 (some .boolean), Cond.code yX4_doesWhen cX4_doesWhen 5 (some .int), Cond.methodLink RX4 95 yX4_says, Cond.instanceMethod yX4_says, Cond.selects RX4 yX4_says yX4_says, Cond.code yX4_says cX4_says 4 (some .boolean), Cond.fieldLink RX4 164 "GardenRules$Rule" "kind" "I", Cond.fieldLink RX4 167 "GardenRules$Rule" "a" "I", Cond.fieldLink RX4 170 "GardenRules$Rule" "b" "I", Cond.methodLink RX4 173 Lib.MathLoose.abs_long.x, Cond.static Lib.MathLoose.abs_long.x, Cond.initialized "java/lang/Math", Cond.code Lib.MathLoose.abs_long.x Lib.MathLoose.abs_long.code 2 (some .long), Cond.fieldLink RX4 179 "GardenRules$Rule" "c" "I", Cond.fieldLink RX4 182 "GardenRules$Rule" "kept" "I", Cond.methodLink RX4 85 yX4_ruleAt, Cond.instanceMethod yX4_ruleAt]
def wsX4_doThoseDue_r6 : List Cond := [Cond.selects RX4 yX4_ruleAt yX4_ruleAt, Cond.code yX4_ruleAt cX4_ruleAt 2 (some (.object "GardenRules$Rule")), Cond.fieldLink RX4 79 "GardenRules" "ruleCount" "I", Cond.fieldLink RX4 23 "GardenRules" "rules" "[LGardenRules$Rule;", Cond.methodLink RX4 61 yX4_reading, Cond.instanceMethod yX4_reading, Cond.selects RX4 yX4_reading yX4_reading, Cond.code yX4_reading cX4_reading 2 (some .int), Cond.methodLink RX4 185 yX4_saysShare, Cond.instanceMethod yX4_saysShare, Cond.selects RX4 yX4_saysShare yX4_saysShare, Cond.code yX4_saysShare cX4_saysShare 6 (some .boolean), Cond.methodLink RX4 189 yX4_saysPointed, Cond.instanceMethod yX4_saysPointed, Cond.selects RX4 yX4_saysPointed yX4_saysPointed, Cond.code yX4_saysPointed cX4_saysPointed 3 (some .boolean), Cond.methodLink RX4 192 yX4_saysBoth, Cond.instanceMethod yX4_saysBoth, Cond.selects RX4 yX4_saysBoth yX4_saysBoth, Cond.methodLink RX4 196 yX4_saysEither, Cond.instanceMethod yX4_saysEither, Cond.selects RX4 yX4_saysEither yX4_saysEither, Cond.methodLink RX4 199 yX4_saysOften, Cond.instanceMethod yX4_saysOften]
def wsX4_doThoseDue_r7 : List Cond := [Cond.selects RX4 yX4_saysOften yX4_saysOften, Cond.methodLink RX4 202 yX4_saysElse, Cond.instanceMethod yX4_saysElse, Cond.selects RX4 yX4_saysElse yX4_saysElse, Cond.code yX4_saysBoth cX4_saysBoth 4 (some .boolean), Cond.code yX4_saysEither cX4_saysEither 4 (some .boolean), Cond.code yX4_saysElse cX4_saysElse 4 (some .boolean), Cond.code yX4_saysOften cX4_saysOften 4 (some .boolean), Cond.fieldLink RX4 205 "GardenRules$Rule" "yeses" "I", Cond.methodLink RX4 261 yX1_keep, Cond.instanceMethod yX1_keep, Cond.selects RX1 yX1_keep yX1_keep, Cond.initialized RX1, Cond.code yX1_keep cX1_keep 4 none, Cond.fieldLink RX1 21 "GardenRules$Failures" "size" "I", Cond.fieldLink RX1 9 "GardenRules$Failures" "numbers" "[I", Cond.fieldLink RX1 15 "GardenRules$Failures" "kinds" "[I", Cond.fieldLink RX1 18 "GardenRules$Failures" "times" "[I"]
def wsX4_doThoseDue : List Cond := .code yX4_doThoseDue cX4_doThoseDue 3 (some .int) :: ((wsX4_doThoseDue_r1 ++ (wsX4_doThoseDue_r2 ++ (wsX4_doThoseDue_r3 ++ (wsX4_doThoseDue_r4 ++ (wsX4_doThoseDue_r5 ++ (wsX4_doThoseDue_r6 ++ wsX4_doThoseDue_r7)))))) ++ wsX40 ++ wsX30 ++ wsX00 ++ wsX20 ++ wsX10)
def wsX4_tick_r1 : List Cond := [Cond.fieldLink RX4 132 "GardenRules" "time" "I", Cond.methodLink RX4 69 yX4_isWithin, Cond.static yX4_isWithin, Cond.initialized RX4, Cond.code yX4_isWithin cX4_isWithin 3 (some .boolean), Cond.methodLink RX4 135 yX4_doThoseDue, Cond.instanceMethod yX4_doThoseDue, Cond.selects RX4 yX4_doThoseDue yX4_doThoseDue, Cond.code yX4_doThoseDue cX4_doThoseDue 3 (some .int), Cond.fieldLink RX4 89 "GardenRules" "begunEver" "I", Cond.fieldLink RX4 36 "GardenRules" "waiting" "LGardenRules$Waiting;", Cond.methodLink RX4 254 yX3_takeFirstFor, Cond.instanceMethod yX3_takeFirstFor, Cond.selects RX3 yX3_takeFirstFor yX3_takeFirstFor, Cond.initialized RX3, Cond.code yX3_takeFirstFor cX3_takeFirstFor 4 (some .int), Cond.fieldLink RX3 18 "GardenRules$Waiting" "size" "I", Cond.fieldLink RX3 15 "GardenRules$Waiting" "times" "[I", Cond.fieldLink RX3 9 "GardenRules$Waiting" "numbers" "[I", Cond.methodLink RX3 22 yX3_closeGapAt, Cond.instanceMethod yX3_closeGapAt, Cond.selects RX3 yX3_closeGapAt yX3_closeGapAt, Cond.code yX3_closeGapAt cX3_closeGapAt 3 none, Cond.methodLink RX4 257 yX4_doOneThatWaited]
def wsX4_tick_r2 : List Cond := [Cond.instanceMethod yX4_doOneThatWaited, Cond.selects RX4 yX4_doOneThatWaited yX4_doOneThatWaited, Cond.code yX4_doOneThatWaited cX4_doOneThatWaited 2 none, Cond.fieldLink RX4 105 "GardenRules" "failure" "I", Cond.fieldLink RX4 43 "GardenRules" "failures" "LGardenRules$Failures;", Cond.methodLink RX4 92 yX4_startWork, Cond.instanceMethod yX4_startWork, Cond.selects RX4 yX4_startWork yX4_startWork, Cond.code yX4_startWork cX4_startWork 1 none, Cond.fieldLink RX4 99 "GardenRules" "begun" "I", Cond.methodLink RX4 125 yX4_does, Cond.instanceMethod yX4_does, Cond.selects RX4 yX4_does yX4_does, Cond.code yX4_does cX4_does 4 (some .int), Cond.fieldLink RX4 211 "GardenRules$Act" "kind" "I", Cond.fieldLink RX4 235 "GardenRules$Act" "a" "I", Cond.methodLink RX4 160 yX4_begins, Cond.instanceMethod yX4_begins, Cond.selects RX4 yX4_begins yX4_begins, Cond.code yX4_begins cX4_begins 1 (some .boolean), Cond.methodLink RX4 121 yX4_actAt, Cond.instanceMethod yX4_actAt, Cond.selects RX4 yX4_actAt yX4_actAt, Cond.code yX4_actAt cX4_actAt 2 (some (.object "GardenRules$Act"))]
def wsX4_tick_r3 : List Cond := [Cond.fieldLink RX4 115 "GardenRules" "actCount" "I", Cond.fieldLink RX4 29 "GardenRules" "acts" "[LGardenRules$Act;", Cond.methodLink RX4 212 yX4_doesPour, Cond.instanceMethod yX4_doesPour, Cond.selects RX4 yX4_doesPour yX4_doesPour, Cond.code yX4_doesPour cX4_doesPour 2 (some .int), Cond.fieldLink RX4 239 "GardenRules$Act" "b" "I", Cond.methodLink RX4 240 yX4_takesOut, Cond.instanceMethod yX4_takesOut, Cond.selects RX4 yX4_takesOut yX4_takesOut, Cond.code yX4_takesOut cX4_takesOut 3 (some .boolean), Cond.fieldLink RX4 13 "GardenRules" "tanks" "[I", Cond.methodLink RX4 65 yX4_isTank, Cond.static yX4_isTank, Cond.code yX4_isTank cX4_isTank 1 (some .boolean), Cond.methodLink RX4 216 yX4_doesMove, Cond.instanceMethod yX4_doesMove, Cond.selects RX4 yX4_doesMove yX4_doesMove, Cond.code yX4_doesMove cX4_doesMove 2 (some .int), Cond.fieldLink RX4 243 "GardenRules$Act" "c" "I", Cond.methodLink RX4 219 yX4_doesWhen, Cond.instanceMethod yX4_doesWhen, Cond.selects RX4 yX4_doesWhen yX4_doesWhen, Cond.methodLink RX4 223 yX4_doesThen]
def wsX4_tick_r4 : List Cond := [Cond.instanceMethod yX4_doesThen, Cond.selects RX4 yX4_doesThen yX4_doesThen, Cond.methodLink RX4 226 yX4_doesTimes, Cond.instanceMethod yX4_doesTimes, Cond.selects RX4 yX4_doesTimes yX4_doesTimes, Cond.methodLink RX4 229 yX4_doesLater, Cond.instanceMethod yX4_doesLater, Cond.selects RX4 yX4_doesLater yX4_doesLater, Cond.code yX4_doesLater cX4_doesLater 2 (some .int), Cond.methodLink RX4 244 yX3_join, Cond.instanceMethod yX3_join, Cond.selects RX3 yX3_join yX3_join, Cond.code yX3_join cX3_join 3 none, Cond.methodLink RX4 232 yX4_doesTry, Cond.instanceMethod yX4_doesTry, Cond.selects RX4 yX4_doesTry yX4_doesTry, Cond.methodLink RX4 236 yX4_doesShow, Cond.instanceMethod yX4_doesShow, Cond.selects RX4 yX4_doesShow yX4_doesShow, Cond.code yX4_doesShow cX4_doesShow 2 (some .int), Cond.fieldLink RX4 9 "GardenRules" "sensors" "[I", Cond.methodLink RX4 53 yX4_isSensor, Cond.static yX4_isSensor, Cond.code yX4_isSensor cX4_isSensor 1 (some .boolean)]
def wsX4_tick_r5 : List Cond := [Cond.code yX4_doesThen cX4_doesThen 4 (some .int), Cond.code yX4_doesTimes cX4_doesTimes 5 (some .int), Cond.code yX4_doesTry cX4_doesTry 5 (some .int), Cond.fieldLink RX4 18 "GardenRules" "tanksAhead" "[[I", Cond.methodLink RX4 248 arraycopyName, Cond.native arraycopyName, Cond.static arraycopyName, Cond.initialized "java/lang/System", Cond.methodLink RX4 208 yX4_canBeCaught, Cond.instanceMethod yX4_canBeCaught, Cond.selects RX4 yX4_canBeCaught yX4_canBeCaught, Cond.code yX4_canBeCaught cX4_canBeCaught 1 (some .boolean), Cond.code yX4_doesWhen cX4_doesWhen 5 (some .int), Cond.methodLink RX4 95 yX4_says, Cond.instanceMethod yX4_says, Cond.selects RX4 yX4_says yX4_says, Cond.code yX4_says cX4_says 4 (some .boolean), Cond.fieldLink RX4 164 "GardenRules$Rule" "kind" "I", Cond.fieldLink RX4 167 "GardenRules$Rule" "a" "I", Cond.fieldLink RX4 170 "GardenRules$Rule" "b" "I", Cond.methodLink RX4 173 Lib.MathLoose.abs_long.x, Cond.static Lib.MathLoose.abs_long.x, Cond.initialized "java/lang/Math", Cond.code Lib.MathLoose.abs_long.x Lib.MathLoose.abs_long.code 2 (some .long)]
def wsX4_tick_r6 : List Cond := [Cond.fieldLink RX4 179 "GardenRules$Rule" "c" "I", Cond.fieldLink RX4 182 "GardenRules$Rule" "kept" "I", Cond.methodLink RX4 85 yX4_ruleAt, Cond.instanceMethod yX4_ruleAt, Cond.selects RX4 yX4_ruleAt yX4_ruleAt, Cond.code yX4_ruleAt cX4_ruleAt 2 (some (.object "GardenRules$Rule")), Cond.fieldLink RX4 79 "GardenRules" "ruleCount" "I", Cond.fieldLink RX4 23 "GardenRules" "rules" "[LGardenRules$Rule;", Cond.methodLink RX4 61 yX4_reading, Cond.instanceMethod yX4_reading, Cond.selects RX4 yX4_reading yX4_reading, Cond.code yX4_reading cX4_reading 2 (some .int), Cond.methodLink RX4 185 yX4_saysShare, Cond.instanceMethod yX4_saysShare, Cond.selects RX4 yX4_saysShare yX4_saysShare, Cond.code yX4_saysShare cX4_saysShare 6 (some .boolean), Cond.methodLink RX4 189 yX4_saysPointed, Cond.instanceMethod yX4_saysPointed, Cond.selects RX4 yX4_saysPointed yX4_saysPointed, Cond.code yX4_saysPointed cX4_saysPointed 3 (some .boolean), Cond.methodLink RX4 192 yX4_saysBoth, Cond.instanceMethod yX4_saysBoth, Cond.selects RX4 yX4_saysBoth yX4_saysBoth, Cond.methodLink RX4 196 yX4_saysEither]
def wsX4_tick_r7 : List Cond := [Cond.instanceMethod yX4_saysEither, Cond.selects RX4 yX4_saysEither yX4_saysEither, Cond.methodLink RX4 199 yX4_saysOften, Cond.instanceMethod yX4_saysOften, Cond.selects RX4 yX4_saysOften yX4_saysOften, Cond.methodLink RX4 202 yX4_saysElse, Cond.instanceMethod yX4_saysElse, Cond.selects RX4 yX4_saysElse yX4_saysElse, Cond.code yX4_saysBoth cX4_saysBoth 4 (some .boolean), Cond.code yX4_saysEither cX4_saysEither 4 (some .boolean), Cond.code yX4_saysElse cX4_saysElse 4 (some .boolean), Cond.code yX4_saysOften cX4_saysOften 4 (some .boolean), Cond.fieldLink RX4 205 "GardenRules$Rule" "yeses" "I", Cond.methodLink RX4 261 yX1_keep, Cond.instanceMethod yX1_keep, Cond.selects RX1 yX1_keep yX1_keep, Cond.initialized RX1, Cond.code yX1_keep cX1_keep 4 none, Cond.fieldLink RX1 21 "GardenRules$Failures" "size" "I", Cond.fieldLink RX1 9 "GardenRules$Failures" "numbers" "[I", Cond.fieldLink RX1 15 "GardenRules$Failures" "kinds" "[I", Cond.fieldLink RX1 18 "GardenRules$Failures" "times" "[I"]
def wsX4_tick : List Cond := .code yX4_tick cX4_tick 4 (some .int) :: ((wsX4_tick_r1 ++ (wsX4_tick_r2 ++ (wsX4_tick_r3 ++ (wsX4_tick_r4 ++ (wsX4_tick_r5 ++ (wsX4_tick_r6 ++ wsX4_tick_r7)))))) ++ wsX40 ++ wsX30 ++ wsX00 ++ wsX20 ++ wsX10)
def wsX4_failed : List Cond := .code yX4_failed cX4_failed 3 (some .int) :: ([.fieldLink RX4 43 "GardenRules" "failures" "LGardenRules$Failures;", .methodLink RX4 139 yX1_actAt, .instanceMethod yX1_actAt, .selects RX1 yX1_actAt yX1_actAt, .initialized RX1, .code yX1_actAt cX1_actAt 2 (some .int), .fieldLink RX1 9 "GardenRules$Failures" "numbers" "[I", .methodLink RX1 25 yX1_has, .instanceMethod yX1_has, .selects RX1 yX1_has yX1_has, .code yX1_has cX1_has 2 (some .boolean), .fieldLink RX1 21 "GardenRules$Failures" "size" "I", .methodLink RX4 141 yX1_failureAt, .instanceMethod yX1_failureAt, .selects RX1 yX1_failureAt yX1_failureAt, .code yX1_failureAt cX1_failureAt 2 (some .int), .fieldLink RX1 15 "GardenRules$Failures" "kinds" "[I", .methodLink RX4 144 yX1_timeAt, .instanceMethod yX1_timeAt, .selects RX1 yX1_timeAt yX1_timeAt, .code yX1_timeAt cX1_timeAt 2 (some .int), .fieldLink RX1 18 "GardenRules$Failures" "times" "[I"] ++ wsX40 ++ wsX10)
def wsX4_count : List Cond := .code yX4_count cX4_count 2 (some .int) :: ([.fieldLink RX4 79 "GardenRules" "ruleCount" "I", .fieldLink RX4 115 "GardenRules" "actCount" "I", .fieldLink RX4 36 "GardenRules" "waiting" "LGardenRules$Waiting;", .fieldLink RX4 132 "GardenRules" "time" "I", .fieldLink RX4 43 "GardenRules" "failures" "LGardenRules$Failures;", .fieldLink RX4 102 "GardenRules" "begunLatest" "I", .fieldLink RX4 89 "GardenRules" "begunEver" "I"] ++ wsX40 ++ wsX30 ++ wsX10)
def wsX4_why : List Cond := .code yX4_why cX4_why 1 (some .int) :: ([.fieldLink RX4 57 "GardenRules" "refusal" "I"] ++ wsX40)
def wsX5_init_r1 : List Cond := [Cond.methodLink RX5 1 objectInit, Cond.instanceMethod objectInit, Cond.code objectInit ⟨#[0xb1]⟩ 1 none, Cond.arrayClass .int, Cond.fieldLink RX5 7 "GardenRulesModel" "sensors" "[I", Cond.fieldLink RX5 13 "GardenRulesModel" "tanks" "[I", Cond.fieldLink RX5 16 "GardenRulesModel" "ruleKinds" "[I", Cond.fieldLink RX5 19 "GardenRulesModel" "ruleAs" "[I", Cond.fieldLink RX5 22 "GardenRulesModel" "ruleBs" "[I", Cond.fieldLink RX5 25 "GardenRulesModel" "ruleCs" "[I", Cond.fieldLink RX5 28 "GardenRulesModel" "ruleKept" "[I", Cond.fieldLink RX5 31 "GardenRulesModel" "actKinds" "[I", Cond.fieldLink RX5 34 "GardenRulesModel" "actAs" "[I", Cond.fieldLink RX5 37 "GardenRulesModel" "actBs" "[I", Cond.fieldLink RX5 40 "GardenRulesModel" "actCs" "[I", Cond.fieldLink RX5 43 "GardenRulesModel" "waitActs" "[I", Cond.fieldLink RX5 46 "GardenRulesModel" "waitTimes" "[I", Cond.fieldLink RX5 49 "GardenRulesModel" "keptActs" "[I", Cond.fieldLink RX5 52 "GardenRulesModel" "keptFailures" "[I", Cond.fieldLink RX5 55 "GardenRulesModel" "keptTimes" "[I", Cond.fieldLink RX5 58 "GardenRulesModel" "sort" "[I", Cond.fieldLink RX5 61 "GardenRulesModel" "which" "[I", Cond.fieldLink RX5 64 "GardenRulesModel" "stage" "[I", Cond.fieldLink RX5 67 "GardenRulesModel" "sum" "[I"]
def wsX5_init_r2 : List Cond := [Cond.fieldLink RX5 70 "GardenRulesModel" "times" "[I", Cond.fieldLink RX5 73 "GardenRulesModel" "saved" "[I"]
def wsX5_init : List Cond := .code yX5_init cX5_init 2 none :: ((wsX5_init_r1 ++ wsX5_init_r2) ++ wsX50)
def wsX5_in : List Cond := .code yX5_in cX5_in 3 (some .boolean) :: ([])
def wsX5_isSensor : List Cond := .code yX5_isSensor cX5_isSensor 1 (some .boolean) :: ([.methodLink RX5 76 yX5_in, .static yX5_in, .initialized RX5, .code yX5_in cX5_in 3 (some .boolean)])
def wsX5_isTank : List Cond := .code yX5_isTank cX5_isTank 1 (some .boolean) :: ([.methodLink RX5 76 yX5_in, .static yX5_in, .initialized RX5, .code yX5_in cX5_in 3 (some .boolean)])
def wsX5_show : List Cond := .code yX5_show cX5_show 4 (some .int) :: ([.fieldLink RX5 84 "GardenRulesModel" "why" "I", .fieldLink RX5 7 "GardenRulesModel" "sensors" "[I", .methodLink RX5 80 yX5_isSensor, .static yX5_isSensor, .initialized RX5, .code yX5_isSensor cX5_isSensor 1 (some .boolean), .methodLink RX5 76 yX5_in, .static yX5_in, .code yX5_in cX5_in 3 (some .boolean)] ++ wsX50)
def wsX5_shown : List Cond := .code yX5_shown cX5_shown 2 (some .int) :: ([.fieldLink RX5 84 "GardenRulesModel" "why" "I", .fieldLink RX5 7 "GardenRulesModel" "sensors" "[I", .methodLink RX5 80 yX5_isSensor, .static yX5_isSensor, .initialized RX5, .code yX5_isSensor cX5_isSensor 1 (some .boolean), .methodLink RX5 76 yX5_in, .static yX5_in, .code yX5_in cX5_in 3 (some .boolean)] ++ wsX50)
def wsX5_fill : List Cond := .code yX5_fill cX5_fill 4 (some .int) :: ([.constant RX5 91 (1000000), .fieldLink RX5 13 "GardenRulesModel" "tanks" "[I", .methodLink RX5 88 yX5_isTank, .static yX5_isTank, .initialized RX5, .code yX5_isTank cX5_isTank 1 (some .boolean), .methodLink RX5 76 yX5_in, .static yX5_in, .code yX5_in cX5_in 3 (some .boolean)] ++ wsX50)
def wsX5_tank : List Cond := .code yX5_tank cX5_tank 2 (some .int) :: ([.fieldLink RX5 13 "GardenRulesModel" "tanks" "[I", .methodLink RX5 88 yX5_isTank, .static yX5_isTank, .initialized RX5, .code yX5_isTank cX5_isTank 1 (some .boolean), .methodLink RX5 76 yX5_in, .static yX5_in, .code yX5_in cX5_in 3 (some .boolean)] ++ wsX50)
def wsX5_isRule : List Cond := .code yX5_isRule cX5_isRule 2 (some .boolean) :: ([.fieldLink RX5 92 "GardenRulesModel" "rules" "I", .methodLink RX5 76 yX5_in, .static yX5_in, .initialized RX5, .code yX5_in cX5_in 3 (some .boolean)] ++ wsX50)
def wsX5_isAct : List Cond := .code yX5_isAct cX5_isAct 2 (some .boolean) :: ([.fieldLink RX5 95 "GardenRulesModel" "acts" "I", .methodLink RX5 76 yX5_in, .static yX5_in, .initialized RX5, .code yX5_in cX5_in 3 (some .boolean)] ++ wsX50)
def wsX5_rule : List Cond := .code yX5_rule cX5_rule 6 (some .int) :: ([.fieldLink RX5 92 "GardenRulesModel" "rules" "I", .fieldLink RX5 16 "GardenRulesModel" "ruleKinds" "[I", .fieldLink RX5 19 "GardenRulesModel" "ruleAs" "[I", .fieldLink RX5 22 "GardenRulesModel" "ruleBs" "[I", .fieldLink RX5 25 "GardenRulesModel" "ruleCs" "[I", .fieldLink RX5 28 "GardenRulesModel" "ruleKept" "[I", .fieldLink RX5 7 "GardenRulesModel" "sensors" "[I", .methodLink RX5 76 yX5_in, .static yX5_in, .initialized RX5, .code yX5_in cX5_in 3 (some .boolean), .methodLink RX5 80 yX5_isSensor, .static yX5_isSensor, .code yX5_isSensor cX5_isSensor 1 (some .boolean), .methodLink RX5 98 yX5_isRule, .instanceMethod yX5_isRule, .selects RX5 yX5_isRule yX5_isRule, .code yX5_isRule cX5_isRule 2 (some .boolean)] ++ wsX50)
def wsX5_isActOrNone : List Cond := .code yX5_isActOrNone cX5_isActOrNone 2 (some .boolean) :: ([.methodLink RX5 101 yX5_isAct, .instanceMethod yX5_isAct, .selects RX5 yX5_isAct yX5_isAct, .initialized RX5, .code yX5_isAct cX5_isAct 2 (some .boolean), .fieldLink RX5 95 "GardenRulesModel" "acts" "I", .methodLink RX5 76 yX5_in, .static yX5_in, .code yX5_in cX5_in 3 (some .boolean)] ++ wsX50)
def wsX5_areKnown : List Cond := .code yX5_areKnown cX5_areKnown 5 (some .boolean) :: ([.methodLink RX5 88 yX5_isTank, .static yX5_isTank, .initialized RX5, .code yX5_isTank cX5_isTank 1 (some .boolean), .methodLink RX5 76 yX5_in, .static yX5_in, .code yX5_in cX5_in 3 (some .boolean), .methodLink RX5 98 yX5_isRule, .instanceMethod yX5_isRule, .selects RX5 yX5_isRule yX5_isRule, .code yX5_isRule cX5_isRule 2 (some .boolean), .fieldLink RX5 92 "GardenRulesModel" "rules" "I", .methodLink RX5 104 yX5_isActOrNone, .instanceMethod yX5_isActOrNone, .selects RX5 yX5_isActOrNone yX5_isActOrNone, .code yX5_isActOrNone cX5_isActOrNone 2 (some .boolean), .methodLink RX5 101 yX5_isAct, .instanceMethod yX5_isAct, .selects RX5 yX5_isAct yX5_isAct, .code yX5_isAct cX5_isAct 2 (some .boolean), .fieldLink RX5 95 "GardenRulesModel" "acts" "I", .methodLink RX5 80 yX5_isSensor, .static yX5_isSensor, .code yX5_isSensor cX5_isSensor 1 (some .boolean)] ++ wsX50)
def wsX5_act_r1 : List Cond := [Cond.fieldLink RX5 95 "GardenRulesModel" "acts" "I", Cond.fieldLink RX5 31 "GardenRulesModel" "actKinds" "[I", Cond.fieldLink RX5 34 "GardenRulesModel" "actAs" "[I", Cond.fieldLink RX5 37 "GardenRulesModel" "actBs" "[I", Cond.fieldLink RX5 40 "GardenRulesModel" "actCs" "[I", Cond.methodLink RX5 76 yX5_in, Cond.static yX5_in, Cond.initialized RX5, Cond.code yX5_in cX5_in 3 (some .boolean), Cond.methodLink RX5 107 yX5_areKnown, Cond.instanceMethod yX5_areKnown, Cond.selects RX5 yX5_areKnown yX5_areKnown, Cond.code yX5_areKnown cX5_areKnown 5 (some .boolean), Cond.methodLink RX5 88 yX5_isTank, Cond.static yX5_isTank, Cond.code yX5_isTank cX5_isTank 1 (some .boolean), Cond.methodLink RX5 98 yX5_isRule, Cond.instanceMethod yX5_isRule, Cond.selects RX5 yX5_isRule yX5_isRule, Cond.code yX5_isRule cX5_isRule 2 (some .boolean), Cond.fieldLink RX5 92 "GardenRulesModel" "rules" "I", Cond.methodLink RX5 104 yX5_isActOrNone, Cond.instanceMethod yX5_isActOrNone, Cond.selects RX5 yX5_isActOrNone yX5_isActOrNone]
def wsX5_act_r2 : List Cond := [Cond.code yX5_isActOrNone cX5_isActOrNone 2 (some .boolean), Cond.methodLink RX5 101 yX5_isAct, Cond.instanceMethod yX5_isAct, Cond.selects RX5 yX5_isAct yX5_isAct, Cond.code yX5_isAct cX5_isAct 2 (some .boolean), Cond.methodLink RX5 80 yX5_isSensor, Cond.static yX5_isSensor, Cond.code yX5_isSensor cX5_isSensor 1 (some .boolean)]
def wsX5_act : List Cond := .code yX5_act cX5_act 5 (some .int) :: ((wsX5_act_r1 ++ wsX5_act_r2) ++ wsX50)
def wsX5_call : List Cond := .code yX5_call cX5_call 3 none :: ([.fieldLink RX5 111 "GardenRulesModel" "begun" "I", .fieldLink RX5 114 "GardenRulesModel" "has" "Z", .fieldLink RX5 118 "GardenRulesModel" "failure" "I", .fieldLink RX5 58 "GardenRulesModel" "sort" "[I", .fieldLink RX5 121 "GardenRulesModel" "top" "I", .fieldLink RX5 61 "GardenRulesModel" "which" "[I", .fieldLink RX5 64 "GardenRulesModel" "stage" "[I"] ++ wsX50)
def wsX5_ends : List Cond := .code yX5_ends cX5_ends 2 none :: ([.fieldLink RX5 121 "GardenRulesModel" "top" "I", .fieldLink RX5 114 "GardenRulesModel" "has" "Z", .fieldLink RX5 124 "GardenRulesModel" "value" "I", .fieldLink RX5 118 "GardenRulesModel" "failure" "I"] ++ wsX50)
def wsX5_fails : List Cond := .code yX5_fails cX5_fails 2 none :: ([.fieldLink RX5 121 "GardenRulesModel" "top" "I", .fieldLink RX5 114 "GardenRulesModel" "has" "Z", .fieldLink RX5 124 "GardenRulesModel" "value" "I", .fieldLink RX5 118 "GardenRulesModel" "failure" "I"] ++ wsX50)
def wsX5_goOn : List Cond := .code yX5_goOn cX5_goOn 4 none :: ([.fieldLink RX5 64 "GardenRulesModel" "stage" "[I", .methodLink RX5 127 yX5_call, .instanceMethod yX5_call, .selects RX5 yX5_call yX5_call, .initialized RX5, .code yX5_call cX5_call 3 none, .fieldLink RX5 111 "GardenRulesModel" "begun" "I", .fieldLink RX5 114 "GardenRulesModel" "has" "Z", .fieldLink RX5 118 "GardenRulesModel" "failure" "I", .fieldLink RX5 58 "GardenRulesModel" "sort" "[I", .fieldLink RX5 121 "GardenRulesModel" "top" "I", .fieldLink RX5 61 "GardenRulesModel" "which" "[I"] ++ wsX50)
def wsX5_says : List Cond := .code yX5_says cX5_says 7 none :: ([.fieldLink RX5 22 "GardenRulesModel" "ruleBs" "[I", .fieldLink RX5 7 "GardenRulesModel" "sensors" "[I", .fieldLink RX5 16 "GardenRulesModel" "ruleKinds" "[I", .fieldLink RX5 25 "GardenRulesModel" "ruleCs" "[I", .fieldLink RX5 28 "GardenRulesModel" "ruleKept" "[I", .methodLink RX5 150 yX5_ends, .instanceMethod yX5_ends, .selects RX5 yX5_ends yX5_ends, .initialized RX5, .code yX5_ends cX5_ends 2 none, .fieldLink RX5 121 "GardenRulesModel" "top" "I", .fieldLink RX5 114 "GardenRulesModel" "has" "Z", .fieldLink RX5 124 "GardenRulesModel" "value" "I", .fieldLink RX5 118 "GardenRulesModel" "failure" "I", .methodLink RX5 154 yX5_fails, .instanceMethod yX5_fails, .selects RX5 yX5_fails yX5_fails, .code yX5_fails cX5_fails 2 none, .methodLink RX5 80 yX5_isSensor, .static yX5_isSensor, .code yX5_isSensor cX5_isSensor 1 (some .boolean), .methodLink RX5 76 yX5_in, .static yX5_in, .code yX5_in cX5_in 3 (some .boolean)] ++ wsX50)
def wsX5_passes : List Cond := .code yX5_passes cX5_passes 1 none :: ([.fieldLink RX5 121 "GardenRulesModel" "top" "I"] ++ wsX50)
def wsX5_goRule_r1 : List Cond := [Cond.fieldLink RX5 19 "GardenRulesModel" "ruleAs" "[I", Cond.fieldLink RX5 64 "GardenRulesModel" "stage" "[I", Cond.fieldLink RX5 16 "GardenRulesModel" "ruleKinds" "[I", Cond.fieldLink RX5 118 "GardenRulesModel" "failure" "I", Cond.fieldLink RX5 22 "GardenRulesModel" "ruleBs" "[I", Cond.fieldLink RX5 124 "GardenRulesModel" "value" "I", Cond.fieldLink RX5 28 "GardenRulesModel" "ruleKept" "[I", Cond.methodLink RX5 140 yX5_says, Cond.instanceMethod yX5_says, Cond.selects RX5 yX5_says yX5_says, Cond.initialized RX5, Cond.code yX5_says cX5_says 7 none, Cond.fieldLink RX5 7 "GardenRulesModel" "sensors" "[I", Cond.fieldLink RX5 25 "GardenRulesModel" "ruleCs" "[I", Cond.methodLink RX5 150 yX5_ends, Cond.instanceMethod yX5_ends, Cond.selects RX5 yX5_ends yX5_ends, Cond.code yX5_ends cX5_ends 2 none, Cond.fieldLink RX5 121 "GardenRulesModel" "top" "I", Cond.fieldLink RX5 114 "GardenRulesModel" "has" "Z", Cond.methodLink RX5 154 yX5_fails, Cond.instanceMethod yX5_fails, Cond.selects RX5 yX5_fails yX5_fails, Cond.code yX5_fails cX5_fails 2 none]
def wsX5_goRule_r2 : List Cond := [Cond.methodLink RX5 80 yX5_isSensor, Cond.static yX5_isSensor, Cond.code yX5_isSensor cX5_isSensor 1 (some .boolean), Cond.methodLink RX5 76 yX5_in, Cond.static yX5_in, Cond.code yX5_in cX5_in 3 (some .boolean), Cond.methodLink RX5 143 yX5_goOn, Cond.instanceMethod yX5_goOn, Cond.selects RX5 yX5_goOn yX5_goOn, Cond.code yX5_goOn cX5_goOn 4 none, Cond.methodLink RX5 127 yX5_call, Cond.instanceMethod yX5_call, Cond.selects RX5 yX5_call yX5_call, Cond.code yX5_call cX5_call 3 none, Cond.fieldLink RX5 111 "GardenRulesModel" "begun" "I", Cond.fieldLink RX5 58 "GardenRulesModel" "sort" "[I", Cond.fieldLink RX5 61 "GardenRulesModel" "which" "[I", Cond.methodLink RX5 147 yX5_passes, Cond.instanceMethod yX5_passes, Cond.selects RX5 yX5_passes yX5_passes, Cond.code yX5_passes cX5_passes 1 none]
def wsX5_goRule : List Cond := .code yX5_goRule cX5_goRule 4 none :: ((wsX5_goRule_r1 ++ wsX5_goRule_r2) ++ wsX50)
def wsX5_waits : List Cond := .code yX5_waits cX5_waits 3 none :: ([.fieldLink RX5 166 "GardenRulesModel" "waiting" "I", .fieldLink RX5 43 "GardenRulesModel" "waitActs" "[I", .fieldLink RX5 46 "GardenRulesModel" "waitTimes" "[I"] ++ wsX50)
def wsX5_begins_r1 : List Cond := [Cond.fieldLink RX5 34 "GardenRulesModel" "actAs" "[I", Cond.fieldLink RX5 37 "GardenRulesModel" "actBs" "[I", Cond.fieldLink RX5 40 "GardenRulesModel" "actCs" "[I", Cond.fieldLink RX5 67 "GardenRulesModel" "sum" "[I", Cond.fieldLink RX5 70 "GardenRulesModel" "times" "[I", Cond.fieldLink RX5 31 "GardenRulesModel" "actKinds" "[I", Cond.fieldLink RX5 13 "GardenRulesModel" "tanks" "[I", Cond.fieldLink RX5 160 "GardenRulesModel" "time" "I", Cond.fieldLink RX5 73 "GardenRulesModel" "saved" "[I", Cond.fieldLink RX5 111 "GardenRulesModel" "begun" "I", Cond.fieldLink RX5 7 "GardenRulesModel" "sensors" "[I", Cond.methodLink RX5 154 yX5_fails, Cond.instanceMethod yX5_fails, Cond.selects RX5 yX5_fails yX5_fails, Cond.initialized RX5, Cond.code yX5_fails cX5_fails 2 none, Cond.fieldLink RX5 121 "GardenRulesModel" "top" "I", Cond.fieldLink RX5 114 "GardenRulesModel" "has" "Z", Cond.fieldLink RX5 124 "GardenRulesModel" "value" "I", Cond.fieldLink RX5 118 "GardenRulesModel" "failure" "I", Cond.methodLink RX5 150 yX5_ends, Cond.instanceMethod yX5_ends, Cond.selects RX5 yX5_ends yX5_ends, Cond.code yX5_ends cX5_ends 2 none]
def wsX5_begins_r2 : List Cond := [Cond.methodLink RX5 143 yX5_goOn, Cond.instanceMethod yX5_goOn, Cond.selects RX5 yX5_goOn yX5_goOn, Cond.code yX5_goOn cX5_goOn 4 none, Cond.fieldLink RX5 64 "GardenRulesModel" "stage" "[I", Cond.methodLink RX5 127 yX5_call, Cond.instanceMethod yX5_call, Cond.selects RX5 yX5_call yX5_call, Cond.code yX5_call cX5_call 3 none, Cond.fieldLink RX5 58 "GardenRulesModel" "sort" "[I", Cond.fieldLink RX5 61 "GardenRulesModel" "which" "[I", Cond.methodLink RX5 163 yX5_waits, Cond.instanceMethod yX5_waits, Cond.selects RX5 yX5_waits yX5_waits, Cond.code yX5_waits cX5_waits 3 none, Cond.fieldLink RX5 166 "GardenRulesModel" "waiting" "I", Cond.fieldLink RX5 43 "GardenRulesModel" "waitActs" "[I", Cond.fieldLink RX5 46 "GardenRulesModel" "waitTimes" "[I"]
def wsX5_begins : List Cond := .code yX5_begins cX5_begins 7 none :: ((wsX5_begins_r1 ++ wsX5_begins_r2) ++ wsX50)
def wsX5_goAct_r1 : List Cond := [Cond.fieldLink RX5 64 "GardenRulesModel" "stage" "[I", Cond.fieldLink RX5 31 "GardenRulesModel" "actKinds" "[I", Cond.fieldLink RX5 118 "GardenRulesModel" "failure" "I", Cond.fieldLink RX5 13 "GardenRulesModel" "tanks" "[I", Cond.fieldLink RX5 73 "GardenRulesModel" "saved" "[I", Cond.fieldLink RX5 37 "GardenRulesModel" "actBs" "[I", Cond.fieldLink RX5 124 "GardenRulesModel" "value" "I", Cond.fieldLink RX5 40 "GardenRulesModel" "actCs" "[I", Cond.fieldLink RX5 67 "GardenRulesModel" "sum" "[I", Cond.fieldLink RX5 70 "GardenRulesModel" "times" "[I", Cond.fieldLink RX5 34 "GardenRulesModel" "actAs" "[I", Cond.methodLink RX5 157 yX5_begins, Cond.instanceMethod yX5_begins, Cond.selects RX5 yX5_begins yX5_begins, Cond.initialized RX5, Cond.code yX5_begins cX5_begins 7 none, Cond.fieldLink RX5 160 "GardenRulesModel" "time" "I", Cond.fieldLink RX5 111 "GardenRulesModel" "begun" "I", Cond.fieldLink RX5 7 "GardenRulesModel" "sensors" "[I", Cond.methodLink RX5 154 yX5_fails, Cond.instanceMethod yX5_fails, Cond.selects RX5 yX5_fails yX5_fails, Cond.code yX5_fails cX5_fails 2 none, Cond.fieldLink RX5 121 "GardenRulesModel" "top" "I"]
def wsX5_goAct_r2 : List Cond := [Cond.fieldLink RX5 114 "GardenRulesModel" "has" "Z", Cond.methodLink RX5 150 yX5_ends, Cond.instanceMethod yX5_ends, Cond.selects RX5 yX5_ends yX5_ends, Cond.code yX5_ends cX5_ends 2 none, Cond.methodLink RX5 143 yX5_goOn, Cond.instanceMethod yX5_goOn, Cond.selects RX5 yX5_goOn yX5_goOn, Cond.code yX5_goOn cX5_goOn 4 none, Cond.methodLink RX5 127 yX5_call, Cond.instanceMethod yX5_call, Cond.selects RX5 yX5_call yX5_call, Cond.code yX5_call cX5_call 3 none, Cond.fieldLink RX5 58 "GardenRulesModel" "sort" "[I", Cond.fieldLink RX5 61 "GardenRulesModel" "which" "[I", Cond.methodLink RX5 163 yX5_waits, Cond.instanceMethod yX5_waits, Cond.selects RX5 yX5_waits yX5_waits, Cond.code yX5_waits cX5_waits 3 none, Cond.fieldLink RX5 166 "GardenRulesModel" "waiting" "I", Cond.fieldLink RX5 43 "GardenRulesModel" "waitActs" "[I", Cond.fieldLink RX5 46 "GardenRulesModel" "waitTimes" "[I", Cond.methodLink RX5 147 yX5_passes, Cond.instanceMethod yX5_passes]
def wsX5_goAct_r3 : List Cond := [Cond.selects RX5 yX5_passes yX5_passes, Cond.code yX5_passes cX5_passes 1 none]
def wsX5_goAct : List Cond := .code yX5_goAct cX5_goAct 5 none :: ((wsX5_goAct_r1 ++ (wsX5_goAct_r2 ++ wsX5_goAct_r3)) ++ wsX50)
def wsX5_go_r1 : List Cond := [Cond.fieldLink RX5 121 "GardenRulesModel" "top" "I", Cond.fieldLink RX5 111 "GardenRulesModel" "begun" "I", Cond.fieldLink RX5 58 "GardenRulesModel" "sort" "[I", Cond.fieldLink RX5 61 "GardenRulesModel" "which" "[I", Cond.fieldLink RX5 137 "GardenRulesModel" "ever" "I", Cond.methodLink RX5 127 yX5_call, Cond.instanceMethod yX5_call, Cond.selects RX5 yX5_call yX5_call, Cond.initialized RX5, Cond.code yX5_call cX5_call 3 none, Cond.fieldLink RX5 114 "GardenRulesModel" "has" "Z", Cond.fieldLink RX5 118 "GardenRulesModel" "failure" "I", Cond.fieldLink RX5 64 "GardenRulesModel" "stage" "[I", Cond.methodLink RX5 131 yX5_goRule, Cond.instanceMethod yX5_goRule, Cond.selects RX5 yX5_goRule yX5_goRule, Cond.code yX5_goRule cX5_goRule 4 none, Cond.fieldLink RX5 19 "GardenRulesModel" "ruleAs" "[I", Cond.fieldLink RX5 16 "GardenRulesModel" "ruleKinds" "[I", Cond.fieldLink RX5 22 "GardenRulesModel" "ruleBs" "[I", Cond.fieldLink RX5 124 "GardenRulesModel" "value" "I", Cond.fieldLink RX5 28 "GardenRulesModel" "ruleKept" "[I", Cond.methodLink RX5 140 yX5_says, Cond.instanceMethod yX5_says]
def wsX5_go_r2 : List Cond := [Cond.selects RX5 yX5_says yX5_says, Cond.code yX5_says cX5_says 7 none, Cond.fieldLink RX5 7 "GardenRulesModel" "sensors" "[I", Cond.fieldLink RX5 25 "GardenRulesModel" "ruleCs" "[I", Cond.methodLink RX5 150 yX5_ends, Cond.instanceMethod yX5_ends, Cond.selects RX5 yX5_ends yX5_ends, Cond.code yX5_ends cX5_ends 2 none, Cond.methodLink RX5 154 yX5_fails, Cond.instanceMethod yX5_fails, Cond.selects RX5 yX5_fails yX5_fails, Cond.code yX5_fails cX5_fails 2 none, Cond.methodLink RX5 80 yX5_isSensor, Cond.static yX5_isSensor, Cond.code yX5_isSensor cX5_isSensor 1 (some .boolean), Cond.methodLink RX5 76 yX5_in, Cond.static yX5_in, Cond.code yX5_in cX5_in 3 (some .boolean), Cond.methodLink RX5 143 yX5_goOn, Cond.instanceMethod yX5_goOn, Cond.selects RX5 yX5_goOn yX5_goOn, Cond.code yX5_goOn cX5_goOn 4 none, Cond.methodLink RX5 147 yX5_passes, Cond.instanceMethod yX5_passes]
def wsX5_go_r3 : List Cond := [Cond.selects RX5 yX5_passes yX5_passes, Cond.code yX5_passes cX5_passes 1 none, Cond.methodLink RX5 134 yX5_goAct, Cond.instanceMethod yX5_goAct, Cond.selects RX5 yX5_goAct yX5_goAct, Cond.code yX5_goAct cX5_goAct 5 none, Cond.fieldLink RX5 31 "GardenRulesModel" "actKinds" "[I", Cond.fieldLink RX5 13 "GardenRulesModel" "tanks" "[I", Cond.fieldLink RX5 73 "GardenRulesModel" "saved" "[I", Cond.fieldLink RX5 37 "GardenRulesModel" "actBs" "[I", Cond.fieldLink RX5 40 "GardenRulesModel" "actCs" "[I", Cond.fieldLink RX5 67 "GardenRulesModel" "sum" "[I", Cond.fieldLink RX5 70 "GardenRulesModel" "times" "[I", Cond.fieldLink RX5 34 "GardenRulesModel" "actAs" "[I", Cond.methodLink RX5 157 yX5_begins, Cond.instanceMethod yX5_begins, Cond.selects RX5 yX5_begins yX5_begins, Cond.code yX5_begins cX5_begins 7 none, Cond.fieldLink RX5 160 "GardenRulesModel" "time" "I", Cond.methodLink RX5 163 yX5_waits, Cond.instanceMethod yX5_waits, Cond.selects RX5 yX5_waits yX5_waits, Cond.code yX5_waits cX5_waits 3 none, Cond.fieldLink RX5 166 "GardenRulesModel" "waiting" "I"]
def wsX5_go_r4 : List Cond := [Cond.fieldLink RX5 43 "GardenRulesModel" "waitActs" "[I", Cond.fieldLink RX5 46 "GardenRulesModel" "waitTimes" "[I"]
def wsX5_go : List Cond := .code yX5_go cX5_go 4 none :: ((wsX5_go_r1 ++ (wsX5_go_r2 ++ (wsX5_go_r3 ++ wsX5_go_r4))) ++ wsX50)
def wsX5_ask_r1 : List Cond := [Cond.fieldLink RX5 137 "GardenRulesModel" "ever" "I", Cond.fieldLink RX5 111 "GardenRulesModel" "begun" "I", Cond.fieldLink RX5 172 "GardenRulesModel" "latest" "I", Cond.fieldLink RX5 118 "GardenRulesModel" "failure" "I", Cond.fieldLink RX5 124 "GardenRulesModel" "value" "I", Cond.methodLink RX5 98 yX5_isRule, Cond.instanceMethod yX5_isRule, Cond.selects RX5 yX5_isRule yX5_isRule, Cond.initialized RX5, Cond.code yX5_isRule cX5_isRule 2 (some .boolean), Cond.fieldLink RX5 92 "GardenRulesModel" "rules" "I", Cond.methodLink RX5 76 yX5_in, Cond.static yX5_in, Cond.code yX5_in cX5_in 3 (some .boolean), Cond.methodLink RX5 169 yX5_go, Cond.instanceMethod yX5_go, Cond.selects RX5 yX5_go yX5_go, Cond.code yX5_go cX5_go 4 none, Cond.fieldLink RX5 121 "GardenRulesModel" "top" "I", Cond.fieldLink RX5 58 "GardenRulesModel" "sort" "[I", Cond.fieldLink RX5 61 "GardenRulesModel" "which" "[I", Cond.methodLink RX5 127 yX5_call, Cond.instanceMethod yX5_call, Cond.selects RX5 yX5_call yX5_call]
def wsX5_ask_r2 : List Cond := [Cond.code yX5_call cX5_call 3 none, Cond.fieldLink RX5 114 "GardenRulesModel" "has" "Z", Cond.fieldLink RX5 64 "GardenRulesModel" "stage" "[I", Cond.methodLink RX5 131 yX5_goRule, Cond.instanceMethod yX5_goRule, Cond.selects RX5 yX5_goRule yX5_goRule, Cond.code yX5_goRule cX5_goRule 4 none, Cond.fieldLink RX5 19 "GardenRulesModel" "ruleAs" "[I", Cond.fieldLink RX5 16 "GardenRulesModel" "ruleKinds" "[I", Cond.fieldLink RX5 22 "GardenRulesModel" "ruleBs" "[I", Cond.fieldLink RX5 28 "GardenRulesModel" "ruleKept" "[I", Cond.methodLink RX5 140 yX5_says, Cond.instanceMethod yX5_says, Cond.selects RX5 yX5_says yX5_says, Cond.code yX5_says cX5_says 7 none, Cond.fieldLink RX5 7 "GardenRulesModel" "sensors" "[I", Cond.fieldLink RX5 25 "GardenRulesModel" "ruleCs" "[I", Cond.methodLink RX5 150 yX5_ends, Cond.instanceMethod yX5_ends, Cond.selects RX5 yX5_ends yX5_ends, Cond.code yX5_ends cX5_ends 2 none, Cond.methodLink RX5 154 yX5_fails, Cond.instanceMethod yX5_fails, Cond.selects RX5 yX5_fails yX5_fails]
def wsX5_ask_r3 : List Cond := [Cond.code yX5_fails cX5_fails 2 none, Cond.methodLink RX5 80 yX5_isSensor, Cond.static yX5_isSensor, Cond.code yX5_isSensor cX5_isSensor 1 (some .boolean), Cond.methodLink RX5 143 yX5_goOn, Cond.instanceMethod yX5_goOn, Cond.selects RX5 yX5_goOn yX5_goOn, Cond.code yX5_goOn cX5_goOn 4 none, Cond.methodLink RX5 147 yX5_passes, Cond.instanceMethod yX5_passes, Cond.selects RX5 yX5_passes yX5_passes, Cond.code yX5_passes cX5_passes 1 none, Cond.methodLink RX5 134 yX5_goAct, Cond.instanceMethod yX5_goAct, Cond.selects RX5 yX5_goAct yX5_goAct, Cond.code yX5_goAct cX5_goAct 5 none, Cond.fieldLink RX5 31 "GardenRulesModel" "actKinds" "[I", Cond.fieldLink RX5 13 "GardenRulesModel" "tanks" "[I", Cond.fieldLink RX5 73 "GardenRulesModel" "saved" "[I", Cond.fieldLink RX5 37 "GardenRulesModel" "actBs" "[I", Cond.fieldLink RX5 40 "GardenRulesModel" "actCs" "[I", Cond.fieldLink RX5 67 "GardenRulesModel" "sum" "[I", Cond.fieldLink RX5 70 "GardenRulesModel" "times" "[I", Cond.fieldLink RX5 34 "GardenRulesModel" "actAs" "[I"]
def wsX5_ask_r4 : List Cond := [Cond.methodLink RX5 157 yX5_begins, Cond.instanceMethod yX5_begins, Cond.selects RX5 yX5_begins yX5_begins, Cond.code yX5_begins cX5_begins 7 none, Cond.fieldLink RX5 160 "GardenRulesModel" "time" "I", Cond.methodLink RX5 163 yX5_waits, Cond.instanceMethod yX5_waits, Cond.selects RX5 yX5_waits yX5_waits, Cond.code yX5_waits cX5_waits 3 none, Cond.fieldLink RX5 166 "GardenRulesModel" "waiting" "I", Cond.fieldLink RX5 43 "GardenRulesModel" "waitActs" "[I", Cond.fieldLink RX5 46 "GardenRulesModel" "waitTimes" "[I"]
def wsX5_ask : List Cond := .code yX5_ask cX5_ask 2 (some .int) :: ((wsX5_ask_r1 ++ (wsX5_ask_r2 ++ (wsX5_ask_r3 ++ wsX5_ask_r4))) ++ wsX50)
def wsX5_run_r1 : List Cond := [Cond.fieldLink RX5 137 "GardenRulesModel" "ever" "I", Cond.fieldLink RX5 111 "GardenRulesModel" "begun" "I", Cond.fieldLink RX5 172 "GardenRulesModel" "latest" "I", Cond.fieldLink RX5 118 "GardenRulesModel" "failure" "I", Cond.fieldLink RX5 124 "GardenRulesModel" "value" "I", Cond.fieldLink RX5 175 "GardenRulesModel" "amount" "I", Cond.methodLink RX5 101 yX5_isAct, Cond.instanceMethod yX5_isAct, Cond.selects RX5 yX5_isAct yX5_isAct, Cond.initialized RX5, Cond.code yX5_isAct cX5_isAct 2 (some .boolean), Cond.fieldLink RX5 95 "GardenRulesModel" "acts" "I", Cond.methodLink RX5 76 yX5_in, Cond.static yX5_in, Cond.code yX5_in cX5_in 3 (some .boolean), Cond.methodLink RX5 169 yX5_go, Cond.instanceMethod yX5_go, Cond.selects RX5 yX5_go yX5_go, Cond.code yX5_go cX5_go 4 none, Cond.fieldLink RX5 121 "GardenRulesModel" "top" "I", Cond.fieldLink RX5 58 "GardenRulesModel" "sort" "[I", Cond.fieldLink RX5 61 "GardenRulesModel" "which" "[I", Cond.methodLink RX5 127 yX5_call, Cond.instanceMethod yX5_call]
def wsX5_run_r2 : List Cond := [Cond.selects RX5 yX5_call yX5_call, Cond.code yX5_call cX5_call 3 none, Cond.fieldLink RX5 114 "GardenRulesModel" "has" "Z", Cond.fieldLink RX5 64 "GardenRulesModel" "stage" "[I", Cond.methodLink RX5 131 yX5_goRule, Cond.instanceMethod yX5_goRule, Cond.selects RX5 yX5_goRule yX5_goRule, Cond.code yX5_goRule cX5_goRule 4 none, Cond.fieldLink RX5 19 "GardenRulesModel" "ruleAs" "[I", Cond.fieldLink RX5 16 "GardenRulesModel" "ruleKinds" "[I", Cond.fieldLink RX5 22 "GardenRulesModel" "ruleBs" "[I", Cond.fieldLink RX5 28 "GardenRulesModel" "ruleKept" "[I", Cond.methodLink RX5 140 yX5_says, Cond.instanceMethod yX5_says, Cond.selects RX5 yX5_says yX5_says, Cond.code yX5_says cX5_says 7 none, Cond.fieldLink RX5 7 "GardenRulesModel" "sensors" "[I", Cond.fieldLink RX5 25 "GardenRulesModel" "ruleCs" "[I", Cond.methodLink RX5 150 yX5_ends, Cond.instanceMethod yX5_ends, Cond.selects RX5 yX5_ends yX5_ends, Cond.code yX5_ends cX5_ends 2 none, Cond.methodLink RX5 154 yX5_fails, Cond.instanceMethod yX5_fails]
def wsX5_run_r3 : List Cond := [Cond.selects RX5 yX5_fails yX5_fails, Cond.code yX5_fails cX5_fails 2 none, Cond.methodLink RX5 80 yX5_isSensor, Cond.static yX5_isSensor, Cond.code yX5_isSensor cX5_isSensor 1 (some .boolean), Cond.methodLink RX5 143 yX5_goOn, Cond.instanceMethod yX5_goOn, Cond.selects RX5 yX5_goOn yX5_goOn, Cond.code yX5_goOn cX5_goOn 4 none, Cond.methodLink RX5 147 yX5_passes, Cond.instanceMethod yX5_passes, Cond.selects RX5 yX5_passes yX5_passes, Cond.code yX5_passes cX5_passes 1 none, Cond.methodLink RX5 134 yX5_goAct, Cond.instanceMethod yX5_goAct, Cond.selects RX5 yX5_goAct yX5_goAct, Cond.code yX5_goAct cX5_goAct 5 none, Cond.fieldLink RX5 31 "GardenRulesModel" "actKinds" "[I", Cond.fieldLink RX5 13 "GardenRulesModel" "tanks" "[I", Cond.fieldLink RX5 73 "GardenRulesModel" "saved" "[I", Cond.fieldLink RX5 37 "GardenRulesModel" "actBs" "[I", Cond.fieldLink RX5 40 "GardenRulesModel" "actCs" "[I", Cond.fieldLink RX5 67 "GardenRulesModel" "sum" "[I", Cond.fieldLink RX5 70 "GardenRulesModel" "times" "[I"]
def wsX5_run_r4 : List Cond := [Cond.fieldLink RX5 34 "GardenRulesModel" "actAs" "[I", Cond.methodLink RX5 157 yX5_begins, Cond.instanceMethod yX5_begins, Cond.selects RX5 yX5_begins yX5_begins, Cond.code yX5_begins cX5_begins 7 none, Cond.fieldLink RX5 160 "GardenRulesModel" "time" "I", Cond.methodLink RX5 163 yX5_waits, Cond.instanceMethod yX5_waits, Cond.selects RX5 yX5_waits yX5_waits, Cond.code yX5_waits cX5_waits 3 none, Cond.fieldLink RX5 166 "GardenRulesModel" "waiting" "I", Cond.fieldLink RX5 43 "GardenRulesModel" "waitActs" "[I", Cond.fieldLink RX5 46 "GardenRulesModel" "waitTimes" "[I"]
def wsX5_run : List Cond := .code yX5_run cX5_run 2 (some .int) :: ((wsX5_run_r1 ++ (wsX5_run_r2 ++ (wsX5_run_r3 ++ wsX5_run_r4))) ++ wsX50)
def wsX5_amount : List Cond := .code yX5_amount cX5_amount 1 (some .int) :: ([.fieldLink RX5 175 "GardenRulesModel" "amount" "I"] ++ wsX50)
def wsX5_due : List Cond := .code yX5_due cX5_due 3 (some .int) :: ([.fieldLink RX5 166 "GardenRulesModel" "waiting" "I", .fieldLink RX5 46 "GardenRulesModel" "waitTimes" "[I", .fieldLink RX5 160 "GardenRulesModel" "time" "I"] ++ wsX50)
def wsX5_comes_r1 : List Cond := [Cond.fieldLink RX5 43 "GardenRulesModel" "waitActs" "[I", Cond.fieldLink RX5 166 "GardenRulesModel" "waiting" "I", Cond.fieldLink RX5 46 "GardenRulesModel" "waitTimes" "[I", Cond.fieldLink RX5 118 "GardenRulesModel" "failure" "I", Cond.fieldLink RX5 185 "GardenRulesModel" "kept" "I", Cond.fieldLink RX5 49 "GardenRulesModel" "keptActs" "[I", Cond.fieldLink RX5 52 "GardenRulesModel" "keptFailures" "[I", Cond.fieldLink RX5 55 "GardenRulesModel" "keptTimes" "[I", Cond.fieldLink RX5 160 "GardenRulesModel" "time" "I", Cond.methodLink RX5 169 yX5_go, Cond.instanceMethod yX5_go, Cond.selects RX5 yX5_go yX5_go, Cond.initialized RX5, Cond.code yX5_go cX5_go 4 none, Cond.fieldLink RX5 121 "GardenRulesModel" "top" "I", Cond.fieldLink RX5 111 "GardenRulesModel" "begun" "I", Cond.fieldLink RX5 58 "GardenRulesModel" "sort" "[I", Cond.fieldLink RX5 61 "GardenRulesModel" "which" "[I", Cond.fieldLink RX5 137 "GardenRulesModel" "ever" "I", Cond.methodLink RX5 127 yX5_call, Cond.instanceMethod yX5_call, Cond.selects RX5 yX5_call yX5_call, Cond.code yX5_call cX5_call 3 none, Cond.fieldLink RX5 114 "GardenRulesModel" "has" "Z"]
def wsX5_comes_r2 : List Cond := [Cond.fieldLink RX5 64 "GardenRulesModel" "stage" "[I", Cond.methodLink RX5 131 yX5_goRule, Cond.instanceMethod yX5_goRule, Cond.selects RX5 yX5_goRule yX5_goRule, Cond.code yX5_goRule cX5_goRule 4 none, Cond.fieldLink RX5 19 "GardenRulesModel" "ruleAs" "[I", Cond.fieldLink RX5 16 "GardenRulesModel" "ruleKinds" "[I", Cond.fieldLink RX5 22 "GardenRulesModel" "ruleBs" "[I", Cond.fieldLink RX5 124 "GardenRulesModel" "value" "I", Cond.fieldLink RX5 28 "GardenRulesModel" "ruleKept" "[I", Cond.methodLink RX5 140 yX5_says, Cond.instanceMethod yX5_says, Cond.selects RX5 yX5_says yX5_says, Cond.code yX5_says cX5_says 7 none, Cond.fieldLink RX5 7 "GardenRulesModel" "sensors" "[I", Cond.fieldLink RX5 25 "GardenRulesModel" "ruleCs" "[I", Cond.methodLink RX5 150 yX5_ends, Cond.instanceMethod yX5_ends, Cond.selects RX5 yX5_ends yX5_ends, Cond.code yX5_ends cX5_ends 2 none, Cond.methodLink RX5 154 yX5_fails, Cond.instanceMethod yX5_fails, Cond.selects RX5 yX5_fails yX5_fails, Cond.code yX5_fails cX5_fails 2 none]
def wsX5_comes_r3 : List Cond := [Cond.methodLink RX5 80 yX5_isSensor, Cond.static yX5_isSensor, Cond.code yX5_isSensor cX5_isSensor 1 (some .boolean), Cond.methodLink RX5 76 yX5_in, Cond.static yX5_in, Cond.code yX5_in cX5_in 3 (some .boolean), Cond.methodLink RX5 143 yX5_goOn, Cond.instanceMethod yX5_goOn, Cond.selects RX5 yX5_goOn yX5_goOn, Cond.code yX5_goOn cX5_goOn 4 none, Cond.methodLink RX5 147 yX5_passes, Cond.instanceMethod yX5_passes, Cond.selects RX5 yX5_passes yX5_passes, Cond.code yX5_passes cX5_passes 1 none, Cond.methodLink RX5 134 yX5_goAct, Cond.instanceMethod yX5_goAct, Cond.selects RX5 yX5_goAct yX5_goAct, Cond.code yX5_goAct cX5_goAct 5 none, Cond.fieldLink RX5 31 "GardenRulesModel" "actKinds" "[I", Cond.fieldLink RX5 13 "GardenRulesModel" "tanks" "[I", Cond.fieldLink RX5 73 "GardenRulesModel" "saved" "[I", Cond.fieldLink RX5 37 "GardenRulesModel" "actBs" "[I", Cond.fieldLink RX5 40 "GardenRulesModel" "actCs" "[I", Cond.fieldLink RX5 67 "GardenRulesModel" "sum" "[I"]
def wsX5_comes_r4 : List Cond := [Cond.fieldLink RX5 70 "GardenRulesModel" "times" "[I", Cond.fieldLink RX5 34 "GardenRulesModel" "actAs" "[I", Cond.methodLink RX5 157 yX5_begins, Cond.instanceMethod yX5_begins, Cond.selects RX5 yX5_begins yX5_begins, Cond.code yX5_begins cX5_begins 7 none, Cond.methodLink RX5 163 yX5_waits, Cond.instanceMethod yX5_waits, Cond.selects RX5 yX5_waits yX5_waits, Cond.code yX5_waits cX5_waits 3 none]
def wsX5_comes : List Cond := .code yX5_comes cX5_comes 4 none :: ((wsX5_comes_r1 ++ (wsX5_comes_r2 ++ (wsX5_comes_r3 ++ wsX5_comes_r4))) ++ wsX50)
def wsX5_tick_r1 : List Cond := [Cond.fieldLink RX5 160 "GardenRulesModel" "time" "I", Cond.fieldLink RX5 137 "GardenRulesModel" "ever" "I", Cond.methodLink RX5 76 yX5_in, Cond.static yX5_in, Cond.initialized RX5, Cond.code yX5_in cX5_in 3 (some .boolean), Cond.methodLink RX5 178 yX5_due, Cond.instanceMethod yX5_due, Cond.selects RX5 yX5_due yX5_due, Cond.code yX5_due cX5_due 3 (some .int), Cond.fieldLink RX5 166 "GardenRulesModel" "waiting" "I", Cond.fieldLink RX5 46 "GardenRulesModel" "waitTimes" "[I", Cond.methodLink RX5 182 yX5_comes, Cond.instanceMethod yX5_comes, Cond.selects RX5 yX5_comes yX5_comes, Cond.code yX5_comes cX5_comes 4 none, Cond.fieldLink RX5 43 "GardenRulesModel" "waitActs" "[I", Cond.fieldLink RX5 118 "GardenRulesModel" "failure" "I", Cond.fieldLink RX5 185 "GardenRulesModel" "kept" "I", Cond.fieldLink RX5 49 "GardenRulesModel" "keptActs" "[I", Cond.fieldLink RX5 52 "GardenRulesModel" "keptFailures" "[I", Cond.fieldLink RX5 55 "GardenRulesModel" "keptTimes" "[I", Cond.methodLink RX5 169 yX5_go, Cond.instanceMethod yX5_go]
def wsX5_tick_r2 : List Cond := [Cond.selects RX5 yX5_go yX5_go, Cond.code yX5_go cX5_go 4 none, Cond.fieldLink RX5 121 "GardenRulesModel" "top" "I", Cond.fieldLink RX5 111 "GardenRulesModel" "begun" "I", Cond.fieldLink RX5 58 "GardenRulesModel" "sort" "[I", Cond.fieldLink RX5 61 "GardenRulesModel" "which" "[I", Cond.methodLink RX5 127 yX5_call, Cond.instanceMethod yX5_call, Cond.selects RX5 yX5_call yX5_call, Cond.code yX5_call cX5_call 3 none, Cond.fieldLink RX5 114 "GardenRulesModel" "has" "Z", Cond.fieldLink RX5 64 "GardenRulesModel" "stage" "[I", Cond.methodLink RX5 131 yX5_goRule, Cond.instanceMethod yX5_goRule, Cond.selects RX5 yX5_goRule yX5_goRule, Cond.code yX5_goRule cX5_goRule 4 none, Cond.fieldLink RX5 19 "GardenRulesModel" "ruleAs" "[I", Cond.fieldLink RX5 16 "GardenRulesModel" "ruleKinds" "[I", Cond.fieldLink RX5 22 "GardenRulesModel" "ruleBs" "[I", Cond.fieldLink RX5 124 "GardenRulesModel" "value" "I", Cond.fieldLink RX5 28 "GardenRulesModel" "ruleKept" "[I", Cond.methodLink RX5 140 yX5_says, Cond.instanceMethod yX5_says, Cond.selects RX5 yX5_says yX5_says]
def wsX5_tick_r3 : List Cond := [Cond.code yX5_says cX5_says 7 none, Cond.fieldLink RX5 7 "GardenRulesModel" "sensors" "[I", Cond.fieldLink RX5 25 "GardenRulesModel" "ruleCs" "[I", Cond.methodLink RX5 150 yX5_ends, Cond.instanceMethod yX5_ends, Cond.selects RX5 yX5_ends yX5_ends, Cond.code yX5_ends cX5_ends 2 none, Cond.methodLink RX5 154 yX5_fails, Cond.instanceMethod yX5_fails, Cond.selects RX5 yX5_fails yX5_fails, Cond.code yX5_fails cX5_fails 2 none, Cond.methodLink RX5 80 yX5_isSensor, Cond.static yX5_isSensor, Cond.code yX5_isSensor cX5_isSensor 1 (some .boolean), Cond.methodLink RX5 143 yX5_goOn, Cond.instanceMethod yX5_goOn, Cond.selects RX5 yX5_goOn yX5_goOn, Cond.code yX5_goOn cX5_goOn 4 none, Cond.methodLink RX5 147 yX5_passes, Cond.instanceMethod yX5_passes, Cond.selects RX5 yX5_passes yX5_passes, Cond.code yX5_passes cX5_passes 1 none, Cond.methodLink RX5 134 yX5_goAct, Cond.instanceMethod yX5_goAct]
def wsX5_tick_r4 : List Cond := [Cond.selects RX5 yX5_goAct yX5_goAct, Cond.code yX5_goAct cX5_goAct 5 none, Cond.fieldLink RX5 31 "GardenRulesModel" "actKinds" "[I", Cond.fieldLink RX5 13 "GardenRulesModel" "tanks" "[I", Cond.fieldLink RX5 73 "GardenRulesModel" "saved" "[I", Cond.fieldLink RX5 37 "GardenRulesModel" "actBs" "[I", Cond.fieldLink RX5 40 "GardenRulesModel" "actCs" "[I", Cond.fieldLink RX5 67 "GardenRulesModel" "sum" "[I", Cond.fieldLink RX5 70 "GardenRulesModel" "times" "[I", Cond.fieldLink RX5 34 "GardenRulesModel" "actAs" "[I", Cond.methodLink RX5 157 yX5_begins, Cond.instanceMethod yX5_begins, Cond.selects RX5 yX5_begins yX5_begins, Cond.code yX5_begins cX5_begins 7 none, Cond.methodLink RX5 163 yX5_waits, Cond.instanceMethod yX5_waits, Cond.selects RX5 yX5_waits yX5_waits, Cond.code yX5_waits cX5_waits 3 none]
def wsX5_tick : List Cond := .code yX5_tick cX5_tick 6 (some .int) :: ((wsX5_tick_r1 ++ (wsX5_tick_r2 ++ (wsX5_tick_r3 ++ wsX5_tick_r4))) ++ wsX50)
def wsX5_failed : List Cond := .code yX5_failed cX5_failed 3 (some .int) :: ([.fieldLink RX5 185 "GardenRulesModel" "kept" "I", .fieldLink RX5 49 "GardenRulesModel" "keptActs" "[I", .fieldLink RX5 52 "GardenRulesModel" "keptFailures" "[I", .fieldLink RX5 55 "GardenRulesModel" "keptTimes" "[I", .methodLink RX5 76 yX5_in, .static yX5_in, .initialized RX5, .code yX5_in cX5_in 3 (some .boolean)] ++ wsX50)
def wsX5_count : List Cond := .code yX5_count cX5_count 2 (some .int) :: ([.fieldLink RX5 92 "GardenRulesModel" "rules" "I", .fieldLink RX5 95 "GardenRulesModel" "acts" "I", .fieldLink RX5 166 "GardenRulesModel" "waiting" "I", .fieldLink RX5 160 "GardenRulesModel" "time" "I", .fieldLink RX5 185 "GardenRulesModel" "kept" "I", .fieldLink RX5 172 "GardenRulesModel" "latest" "I", .fieldLink RX5 137 "GardenRulesModel" "ever" "I"] ++ wsX50)
def wsX5_why : List Cond := .code yX5_why cX5_why 1 (some .int) :: ([.fieldLink RX5 84 "GardenRulesModel" "why" "I"] ++ wsX50)
def wsJ9_abs_067f4 : List Cond := .code yJ9_abs_067f4 cJ9_abs_067f4 2 (some .long) :: ([])
def wsL_law_r1 : List Cond := [Cond.classLink RL 7 RX4, Cond.instantiable RX4 16, Cond.initialized RX4, Cond.classLink RL 10 RX5, Cond.instantiable RX5 36, Cond.initialized RX5, Cond.methodLink RL 9 yX4_init, Cond.instanceMethod yX4_init, Cond.code yX4_init cX4_init 1 none, Cond.methodLink RX4 1 objectInit, Cond.instanceMethod objectInit, Cond.code objectInit ⟨#[0xb1]⟩ 1 none, Cond.arrayClass .int, Cond.fieldLink RX4 9 "GardenRules" "sensors" "[I", Cond.fieldLink RX4 13 "GardenRules" "tanks" "[I", Cond.classLink RX4 16 "[[I", Cond.fieldLink RX4 18 "GardenRules" "tanksAhead" "[[I", Cond.classLink RX4 21 RX2, Cond.fieldLink RX4 23 "GardenRules" "rules" "[LGardenRules$Rule;", Cond.classLink RX4 27 RX0, Cond.fieldLink RX4 29 "GardenRules" "acts" "[LGardenRules$Act;", Cond.classLink RX4 33 RX3, Cond.instantiable RX3 3, Cond.initialized RX3]
def wsL_law_r2 : List Cond := [Cond.fieldLink RX4 36 "GardenRules" "waiting" "LGardenRules$Waiting;", Cond.classLink RX4 40 RX1, Cond.instantiable RX1 4, Cond.initialized RX1, Cond.fieldLink RX4 43 "GardenRules" "failures" "LGardenRules$Failures;", Cond.instanceMethod yX3_init, Cond.code yX3_init cX3_init 1 none, Cond.methodLink RX3 3 objectInit, Cond.fieldLink RX3 9 "GardenRules$Waiting" "numbers" "[I", Cond.fieldLink RX3 15 "GardenRules$Waiting" "times" "[I", Cond.instanceMethod yX1_init, Cond.code yX1_init cX1_init 1 none, Cond.methodLink RX1 3 objectInit, Cond.fieldLink RX1 9 "GardenRules$Failures" "numbers" "[I", Cond.fieldLink RX1 15 "GardenRules$Failures" "kinds" "[I", Cond.fieldLink RX1 18 "GardenRules$Failures" "times" "[I", Cond.methodLink RX4 47 yJ7_fill_53178, Cond.static yJ7_fill_53178, Cond.initialized RJ7, Cond.code yJ7_fill_53178 cJ7_fill_53178 4 none, Cond.methodLink RL 12 yX5_init, Cond.instanceMethod yX5_init, Cond.code yX5_init cX5_init 2 none, Cond.methodLink RX5 1 objectInit]
def wsL_law_r3 : List Cond := [Cond.fieldLink RX5 7 "GardenRulesModel" "sensors" "[I", Cond.fieldLink RX5 13 "GardenRulesModel" "tanks" "[I", Cond.fieldLink RX5 16 "GardenRulesModel" "ruleKinds" "[I", Cond.fieldLink RX5 19 "GardenRulesModel" "ruleAs" "[I", Cond.fieldLink RX5 22 "GardenRulesModel" "ruleBs" "[I", Cond.fieldLink RX5 25 "GardenRulesModel" "ruleCs" "[I", Cond.fieldLink RX5 28 "GardenRulesModel" "ruleKept" "[I", Cond.fieldLink RX5 31 "GardenRulesModel" "actKinds" "[I", Cond.fieldLink RX5 34 "GardenRulesModel" "actAs" "[I", Cond.fieldLink RX5 37 "GardenRulesModel" "actBs" "[I", Cond.fieldLink RX5 40 "GardenRulesModel" "actCs" "[I", Cond.fieldLink RX5 43 "GardenRulesModel" "waitActs" "[I", Cond.fieldLink RX5 46 "GardenRulesModel" "waitTimes" "[I", Cond.fieldLink RX5 49 "GardenRulesModel" "keptActs" "[I", Cond.fieldLink RX5 52 "GardenRulesModel" "keptFailures" "[I", Cond.fieldLink RX5 55 "GardenRulesModel" "keptTimes" "[I", Cond.fieldLink RX5 58 "GardenRulesModel" "sort" "[I", Cond.fieldLink RX5 61 "GardenRulesModel" "which" "[I", Cond.fieldLink RX5 64 "GardenRulesModel" "stage" "[I", Cond.fieldLink RX5 67 "GardenRulesModel" "sum" "[I", Cond.fieldLink RX5 70 "GardenRulesModel" "times" "[I", Cond.fieldLink RX5 73 "GardenRulesModel" "saved" "[I", Cond.methodLink RL 13 yX4_show, Cond.instanceMethod yX4_show]
def wsL_law_r4 : List Cond := [Cond.selects RX4 yX4_show yX4_show, Cond.code yX4_show cX4_show 4 (some .int), Cond.fieldLink RX4 57 "GardenRules" "refusal" "I", Cond.methodLink RX4 53 yX4_isSensor, Cond.static yX4_isSensor, Cond.code yX4_isSensor cX4_isSensor 1 (some .boolean), Cond.methodLink RL 17 yX5_show, Cond.instanceMethod yX5_show, Cond.selects RX5 yX5_show yX5_show, Cond.code yX5_show cX5_show 4 (some .int), Cond.fieldLink RX5 84 "GardenRulesModel" "why" "I", Cond.methodLink RX5 80 yX5_isSensor, Cond.static yX5_isSensor, Cond.code yX5_isSensor cX5_isSensor 1 (some .boolean), Cond.methodLink RX5 76 yX5_in, Cond.static yX5_in, Cond.code yX5_in cX5_in 3 (some .boolean), Cond.methodLink RL 18 yX4_shown, Cond.instanceMethod yX4_shown, Cond.selects RX4 yX4_shown yX4_shown, Cond.code yX4_shown cX4_shown 2 (some .int), Cond.methodLink RX4 61 yX4_reading, Cond.instanceMethod yX4_reading, Cond.selects RX4 yX4_reading yX4_reading]
def wsL_law_r5 : List Cond := [Cond.code yX4_reading cX4_reading 2 (some .int), Cond.methodLink RL 22 yX5_shown, Cond.instanceMethod yX5_shown, Cond.selects RX5 yX5_shown yX5_shown, Cond.code yX5_shown cX5_shown 2 (some .int), Cond.methodLink RL 23 yX4_fill, Cond.instanceMethod yX4_fill, Cond.selects RX4 yX4_fill yX4_fill, Cond.code yX4_fill cX4_fill 4 (some .int), Cond.constant RX4 68 (1000000), Cond.methodLink RX4 65 yX4_isTank, Cond.static yX4_isTank, Cond.code yX4_isTank cX4_isTank 1 (some .boolean), Cond.methodLink RX4 69 yX4_isWithin, Cond.static yX4_isWithin, Cond.code yX4_isWithin cX4_isWithin 3 (some .boolean), Cond.methodLink RL 26 yX5_fill, Cond.instanceMethod yX5_fill, Cond.selects RX5 yX5_fill yX5_fill, Cond.code yX5_fill cX5_fill 4 (some .int), Cond.constant RX5 91 (1000000), Cond.methodLink RX5 88 yX5_isTank, Cond.static yX5_isTank, Cond.code yX5_isTank cX5_isTank 1 (some .boolean)]
def wsL_law_r6 : List Cond := [Cond.methodLink RL 27 yX4_tank, Cond.instanceMethod yX4_tank, Cond.selects RX4 yX4_tank yX4_tank, Cond.code yX4_tank cX4_tank 2 (some .int), Cond.methodLink RL 30 yX5_tank, Cond.instanceMethod yX5_tank, Cond.selects RX5 yX5_tank yX5_tank, Cond.code yX5_tank cX5_tank 2 (some .int), Cond.methodLink RL 31 yX4_rule, Cond.instanceMethod yX4_rule, Cond.selects RX4 yX4_rule yX4_rule, Cond.code yX4_rule cX4_rule 5 (some .int), Cond.fieldLink RX4 79 "GardenRules" "ruleCount" "I", Cond.instantiable RX2 6, Cond.initialized RX2, Cond.methodLink RX4 73 yX4_knowsPartsOfRule, Cond.instanceMethod yX4_knowsPartsOfRule, Cond.selects RX4 yX4_knowsPartsOfRule yX4_knowsPartsOfRule, Cond.code yX4_knowsPartsOfRule cX4_knowsPartsOfRule 4 (some .boolean), Cond.methodLink RX4 151 yX4_isRule, Cond.instanceMethod yX4_isRule, Cond.selects RX4 yX4_isRule yX4_isRule, Cond.code yX4_isRule cX4_isRule 2 (some .boolean), Cond.methodLink RX4 85 yX4_ruleAt]
def wsL_law_r7 : List Cond := [Cond.instanceMethod yX4_ruleAt, Cond.selects RX4 yX4_ruleAt yX4_ruleAt, Cond.code yX4_ruleAt cX4_ruleAt 2 (some (.object "GardenRules$Rule")), Cond.methodLink RX4 76 yX4_hasNumbersOfRule, Cond.static yX4_hasNumbersOfRule, Cond.code yX4_hasNumbersOfRule cX4_hasNumbersOfRule 3 (some .boolean), Cond.methodLink RX4 82 yX2_init, Cond.instanceMethod yX2_init, Cond.code yX2_init cX2_init 6 none, Cond.methodLink RX2 1 objectInit, Cond.fieldLink RX2 7 "GardenRules$Rule" "kind" "I", Cond.fieldLink RX2 13 "GardenRules$Rule" "a" "I", Cond.fieldLink RX2 16 "GardenRules$Rule" "b" "I", Cond.fieldLink RX2 19 "GardenRules$Rule" "c" "I", Cond.fieldLink RX2 22 "GardenRules$Rule" "kept" "I", Cond.methodLink RL 35 yX5_rule, Cond.instanceMethod yX5_rule, Cond.selects RX5 yX5_rule yX5_rule, Cond.code yX5_rule cX5_rule 6 (some .int), Cond.fieldLink RX5 92 "GardenRulesModel" "rules" "I", Cond.methodLink RX5 98 yX5_isRule, Cond.instanceMethod yX5_isRule, Cond.selects RX5 yX5_isRule yX5_isRule, Cond.code yX5_isRule cX5_isRule 2 (some .boolean)]
def wsL_law_r8 : List Cond := [Cond.methodLink RL 36 yX4_ask, Cond.instanceMethod yX4_ask, Cond.selects RX4 yX4_ask yX4_ask, Cond.code yX4_ask cX4_ask 3 (some .int), Cond.fieldLink RX4 89 "GardenRules" "begunEver" "I", Cond.fieldLink RX4 99 "GardenRules" "begun" "I", Cond.fieldLink RX4 102 "GardenRules" "begunLatest" "I", Cond.fieldLink RX4 105 "GardenRules" "failure" "I", Cond.methodLink RX4 92 yX4_startWork, Cond.instanceMethod yX4_startWork, Cond.selects RX4 yX4_startWork yX4_startWork, Cond.code yX4_startWork cX4_startWork 1 none, Cond.methodLink RX4 95 yX4_says, Cond.instanceMethod yX4_says, Cond.selects RX4 yX4_says yX4_says, Cond.code yX4_says cX4_says 4 (some .boolean), Cond.fieldLink RX4 164 "GardenRules$Rule" "kind" "I", Cond.fieldLink RX4 167 "GardenRules$Rule" "a" "I", Cond.fieldLink RX4 170 "GardenRules$Rule" "b" "I", Cond.methodLink RX4 173 Lib.MathLoose.abs_long.x, Cond.static Lib.MathLoose.abs_long.x, Cond.initialized "java/lang/Math", Cond.code Lib.MathLoose.abs_long.x Lib.MathLoose.abs_long.code 2 (some .long), Cond.fieldLink RX4 179 "GardenRules$Rule" "c" "I"]
def wsL_law_r9 : List Cond := [Cond.fieldLink RX4 182 "GardenRules$Rule" "kept" "I", Cond.methodLink RX4 160 yX4_begins, Cond.instanceMethod yX4_begins, Cond.selects RX4 yX4_begins yX4_begins, Cond.code yX4_begins cX4_begins 1 (some .boolean), Cond.methodLink RX4 185 yX4_saysShare, Cond.instanceMethod yX4_saysShare, Cond.selects RX4 yX4_saysShare yX4_saysShare, Cond.code yX4_saysShare cX4_saysShare 6 (some .boolean), Cond.methodLink RX4 189 yX4_saysPointed, Cond.instanceMethod yX4_saysPointed, Cond.selects RX4 yX4_saysPointed yX4_saysPointed, Cond.code yX4_saysPointed cX4_saysPointed 3 (some .boolean), Cond.methodLink RX4 192 yX4_saysBoth, Cond.instanceMethod yX4_saysBoth, Cond.selects RX4 yX4_saysBoth yX4_saysBoth, Cond.methodLink RX4 196 yX4_saysEither, Cond.instanceMethod yX4_saysEither, Cond.selects RX4 yX4_saysEither yX4_saysEither, Cond.methodLink RX4 199 yX4_saysOften, Cond.instanceMethod yX4_saysOften, Cond.selects RX4 yX4_saysOften yX4_saysOften, Cond.methodLink RX4 202 yX4_saysElse, Cond.instanceMethod yX4_saysElse]
def wsL_law_r10 : List Cond := [Cond.selects RX4 yX4_saysElse yX4_saysElse, Cond.code yX4_saysBoth cX4_saysBoth 4 (some .boolean), Cond.code yX4_saysEither cX4_saysEither 4 (some .boolean), Cond.code yX4_saysElse cX4_saysElse 4 (some .boolean), Cond.methodLink RX4 208 yX4_canBeCaught, Cond.instanceMethod yX4_canBeCaught, Cond.selects RX4 yX4_canBeCaught yX4_canBeCaught, Cond.code yX4_canBeCaught cX4_canBeCaught 1 (some .boolean), Cond.code yX4_saysOften cX4_saysOften 4 (some .boolean), Cond.fieldLink RX4 205 "GardenRules$Rule" "yeses" "I", Cond.methodLink RL 39 yX5_ask, Cond.instanceMethod yX5_ask, Cond.selects RX5 yX5_ask yX5_ask, Cond.code yX5_ask cX5_ask 2 (some .int), Cond.fieldLink RX5 137 "GardenRulesModel" "ever" "I", Cond.fieldLink RX5 111 "GardenRulesModel" "begun" "I", Cond.fieldLink RX5 172 "GardenRulesModel" "latest" "I", Cond.fieldLink RX5 118 "GardenRulesModel" "failure" "I", Cond.fieldLink RX5 124 "GardenRulesModel" "value" "I", Cond.methodLink RX5 169 yX5_go, Cond.instanceMethod yX5_go, Cond.selects RX5 yX5_go yX5_go, Cond.code yX5_go cX5_go 4 none, Cond.fieldLink RX5 121 "GardenRulesModel" "top" "I"]
def wsL_law_r11 : List Cond := [Cond.methodLink RX5 127 yX5_call, Cond.instanceMethod yX5_call, Cond.selects RX5 yX5_call yX5_call, Cond.code yX5_call cX5_call 3 none, Cond.fieldLink RX5 114 "GardenRulesModel" "has" "Z", Cond.methodLink RX5 131 yX5_goRule, Cond.instanceMethod yX5_goRule, Cond.selects RX5 yX5_goRule yX5_goRule, Cond.code yX5_goRule cX5_goRule 4 none, Cond.methodLink RX5 140 yX5_says, Cond.instanceMethod yX5_says, Cond.selects RX5 yX5_says yX5_says, Cond.code yX5_says cX5_says 7 none, Cond.methodLink RX5 150 yX5_ends, Cond.instanceMethod yX5_ends, Cond.selects RX5 yX5_ends yX5_ends, Cond.code yX5_ends cX5_ends 2 none, Cond.methodLink RX5 154 yX5_fails, Cond.instanceMethod yX5_fails, Cond.selects RX5 yX5_fails yX5_fails, Cond.code yX5_fails cX5_fails 2 none, Cond.methodLink RX5 143 yX5_goOn, Cond.instanceMethod yX5_goOn, Cond.selects RX5 yX5_goOn yX5_goOn]
def wsL_law_r12 : List Cond := [Cond.code yX5_goOn cX5_goOn 4 none, Cond.methodLink RX5 147 yX5_passes, Cond.instanceMethod yX5_passes, Cond.selects RX5 yX5_passes yX5_passes, Cond.code yX5_passes cX5_passes 1 none, Cond.methodLink RX5 134 yX5_goAct, Cond.instanceMethod yX5_goAct, Cond.selects RX5 yX5_goAct yX5_goAct, Cond.code yX5_goAct cX5_goAct 5 none, Cond.methodLink RX5 157 yX5_begins, Cond.instanceMethod yX5_begins, Cond.selects RX5 yX5_begins yX5_begins, Cond.code yX5_begins cX5_begins 7 none, Cond.fieldLink RX5 160 "GardenRulesModel" "time" "I", Cond.methodLink RX5 163 yX5_waits, Cond.instanceMethod yX5_waits, Cond.selects RX5 yX5_waits yX5_waits, Cond.code yX5_waits cX5_waits 3 none, Cond.fieldLink RX5 166 "GardenRulesModel" "waiting" "I", Cond.methodLink RL 40 yX4_act, Cond.instanceMethod yX4_act, Cond.selects RX4 yX4_act yX4_act, Cond.code yX4_act cX4_act 6 (some .int), Cond.fieldLink RX4 115 "GardenRules" "actCount" "I"]
def wsL_law_r13 : List Cond := [Cond.instantiable RX0 4, Cond.initialized RX0, Cond.methodLink RX4 108 yX4_knowsPartsOfAct, Cond.instanceMethod yX4_knowsPartsOfAct, Cond.selects RX4 yX4_knowsPartsOfAct yX4_knowsPartsOfAct, Cond.code yX4_knowsPartsOfAct cX4_knowsPartsOfAct 5 (some .boolean), Cond.methodLink RX4 154 yX4_isActOrNone, Cond.instanceMethod yX4_isActOrNone, Cond.selects RX4 yX4_isActOrNone yX4_isActOrNone, Cond.code yX4_isActOrNone cX4_isActOrNone 2 (some .boolean), Cond.methodLink RX4 157 yX4_isAct, Cond.instanceMethod yX4_isAct, Cond.selects RX4 yX4_isAct yX4_isAct, Cond.code yX4_isAct cX4_isAct 2 (some .boolean), Cond.methodLink RX4 121 yX4_actAt, Cond.instanceMethod yX4_actAt, Cond.selects RX4 yX4_actAt yX4_actAt, Cond.code yX4_actAt cX4_actAt 2 (some (.object "GardenRules$Act")), Cond.methodLink RX4 112 yX4_hasNumbersOfAct, Cond.static yX4_hasNumbersOfAct, Cond.code yX4_hasNumbersOfAct cX4_hasNumbersOfAct 3 (some .boolean), Cond.methodLink RX4 118 yX0_init, Cond.instanceMethod yX0_init, Cond.code yX0_init cX0_init 5 none]
def wsL_law_r14 : List Cond := [Cond.methodLink RX0 1 objectInit, Cond.fieldLink RX0 7 "GardenRules$Act" "kind" "I", Cond.fieldLink RX0 13 "GardenRules$Act" "a" "I", Cond.fieldLink RX0 16 "GardenRules$Act" "b" "I", Cond.fieldLink RX0 19 "GardenRules$Act" "c" "I", Cond.methodLink RL 43 yX5_act, Cond.instanceMethod yX5_act, Cond.selects RX5 yX5_act yX5_act, Cond.code yX5_act cX5_act 5 (some .int), Cond.fieldLink RX5 95 "GardenRulesModel" "acts" "I", Cond.methodLink RX5 107 yX5_areKnown, Cond.instanceMethod yX5_areKnown, Cond.selects RX5 yX5_areKnown yX5_areKnown, Cond.code yX5_areKnown cX5_areKnown 5 (some .boolean), Cond.methodLink RX5 104 yX5_isActOrNone, Cond.instanceMethod yX5_isActOrNone, Cond.selects RX5 yX5_isActOrNone yX5_isActOrNone, Cond.code yX5_isActOrNone cX5_isActOrNone 2 (some .boolean), Cond.methodLink RX5 101 yX5_isAct, Cond.instanceMethod yX5_isAct, Cond.selects RX5 yX5_isAct yX5_isAct, Cond.code yX5_isAct cX5_isAct 2 (some .boolean), Cond.methodLink RL 44 yX4_run, Cond.instanceMethod yX4_run]
def wsL_law_r15 : List Cond := [Cond.selects RX4 yX4_run yX4_run, Cond.code yX4_run cX4_run 3 (some .int), Cond.fieldLink RX4 129 "GardenRules" "latestAmount" "I", Cond.methodLink RX4 125 yX4_does, Cond.instanceMethod yX4_does, Cond.selects RX4 yX4_does yX4_does, Cond.code yX4_does cX4_does 4 (some .int), Cond.fieldLink RX4 211 "GardenRules$Act" "kind" "I", Cond.fieldLink RX4 235 "GardenRules$Act" "a" "I", Cond.methodLink RX4 212 yX4_doesPour, Cond.instanceMethod yX4_doesPour, Cond.selects RX4 yX4_doesPour yX4_doesPour, Cond.code yX4_doesPour cX4_doesPour 2 (some .int), Cond.fieldLink RX4 239 "GardenRules$Act" "b" "I", Cond.methodLink RX4 240 yX4_takesOut, Cond.instanceMethod yX4_takesOut, Cond.selects RX4 yX4_takesOut yX4_takesOut, Cond.code yX4_takesOut cX4_takesOut 3 (some .boolean), Cond.methodLink RX4 216 yX4_doesMove, Cond.instanceMethod yX4_doesMove, Cond.selects RX4 yX4_doesMove yX4_doesMove, Cond.code yX4_doesMove cX4_doesMove 2 (some .int), Cond.fieldLink RX4 243 "GardenRules$Act" "c" "I", Cond.methodLink RX4 219 yX4_doesWhen]
def wsL_law_r16 : List Cond := [Cond.instanceMethod yX4_doesWhen, Cond.selects RX4 yX4_doesWhen yX4_doesWhen, Cond.methodLink RX4 223 yX4_doesThen, Cond.instanceMethod yX4_doesThen, Cond.selects RX4 yX4_doesThen yX4_doesThen, Cond.methodLink RX4 226 yX4_doesTimes, Cond.instanceMethod yX4_doesTimes, Cond.selects RX4 yX4_doesTimes yX4_doesTimes, Cond.methodLink RX4 229 yX4_doesLater, Cond.instanceMethod yX4_doesLater, Cond.selects RX4 yX4_doesLater yX4_doesLater, Cond.code yX4_doesLater cX4_doesLater 2 (some .int), Cond.fieldLink RX4 132 "GardenRules" "time" "I", Cond.methodLink RX4 244 yX3_join, Cond.instanceMethod yX3_join, Cond.selects RX3 yX3_join yX3_join, Cond.code yX3_join cX3_join 3 none, Cond.fieldLink RX3 18 "GardenRules$Waiting" "size" "I", Cond.methodLink RX4 232 yX4_doesTry, Cond.instanceMethod yX4_doesTry, Cond.selects RX4 yX4_doesTry yX4_doesTry, Cond.methodLink RX4 236 yX4_doesShow, Cond.instanceMethod yX4_doesShow, Cond.selects RX4 yX4_doesShow yX4_doesShow]
def wsL_law_r17 : List Cond := [Cond.code yX4_doesShow cX4_doesShow 2 (some .int), Cond.code yX4_doesThen cX4_doesThen 4 (some .int), Cond.code yX4_doesTimes cX4_doesTimes 5 (some .int), Cond.code yX4_doesTry cX4_doesTry 5 (some .int), Cond.methodLink RX4 248 arraycopyName, Cond.native arraycopyName, Cond.static arraycopyName, Cond.initialized "java/lang/System", Cond.code yX4_doesWhen cX4_doesWhen 5 (some .int), Cond.methodLink RL 47 yX5_run, Cond.instanceMethod yX5_run, Cond.selects RX5 yX5_run yX5_run, Cond.code yX5_run cX5_run 2 (some .int), Cond.fieldLink RX5 175 "GardenRulesModel" "amount" "I", Cond.methodLink RL 48 yX4_amount, Cond.instanceMethod yX4_amount, Cond.selects RX4 yX4_amount yX4_amount, Cond.code yX4_amount cX4_amount 1 (some .int), Cond.methodLink RL 52 yX5_amount, Cond.instanceMethod yX5_amount, Cond.selects RX5 yX5_amount yX5_amount, Cond.code yX5_amount cX5_amount 1 (some .int), Cond.methodLink RL 53 yX4_tick, Cond.instanceMethod yX4_tick]
def wsL_law_r18 : List Cond := [Cond.selects RX4 yX4_tick yX4_tick, Cond.code yX4_tick cX4_tick 4 (some .int), Cond.methodLink RX4 135 yX4_doThoseDue, Cond.instanceMethod yX4_doThoseDue, Cond.selects RX4 yX4_doThoseDue yX4_doThoseDue, Cond.code yX4_doThoseDue cX4_doThoseDue 3 (some .int), Cond.methodLink RX4 254 yX3_takeFirstFor, Cond.instanceMethod yX3_takeFirstFor, Cond.selects RX3 yX3_takeFirstFor yX3_takeFirstFor, Cond.code yX3_takeFirstFor cX3_takeFirstFor 4 (some .int), Cond.methodLink RX3 22 yX3_closeGapAt, Cond.instanceMethod yX3_closeGapAt, Cond.selects RX3 yX3_closeGapAt yX3_closeGapAt, Cond.code yX3_closeGapAt cX3_closeGapAt 3 none, Cond.methodLink RX4 257 yX4_doOneThatWaited, Cond.instanceMethod yX4_doOneThatWaited, Cond.selects RX4 yX4_doOneThatWaited yX4_doOneThatWaited, Cond.code yX4_doOneThatWaited cX4_doOneThatWaited 2 none, Cond.methodLink RX4 261 yX1_keep, Cond.instanceMethod yX1_keep, Cond.selects RX1 yX1_keep yX1_keep, Cond.code yX1_keep cX1_keep 4 none, Cond.fieldLink RX1 21 "GardenRules$Failures" "size" "I", Cond.methodLink RL 56 yX5_tick]
def wsL_law_r19 : List Cond := [Cond.instanceMethod yX5_tick, Cond.selects RX5 yX5_tick yX5_tick, Cond.code yX5_tick cX5_tick 6 (some .int), Cond.methodLink RX5 178 yX5_due, Cond.instanceMethod yX5_due, Cond.selects RX5 yX5_due yX5_due, Cond.code yX5_due cX5_due 3 (some .int), Cond.methodLink RX5 182 yX5_comes, Cond.instanceMethod yX5_comes, Cond.selects RX5 yX5_comes yX5_comes, Cond.code yX5_comes cX5_comes 4 none, Cond.fieldLink RX5 185 "GardenRulesModel" "kept" "I", Cond.methodLink RL 57 yX4_failed, Cond.instanceMethod yX4_failed, Cond.selects RX4 yX4_failed yX4_failed, Cond.code yX4_failed cX4_failed 3 (some .int), Cond.methodLink RX4 139 yX1_actAt, Cond.instanceMethod yX1_actAt, Cond.selects RX1 yX1_actAt yX1_actAt, Cond.code yX1_actAt cX1_actAt 2 (some .int), Cond.methodLink RX1 25 yX1_has, Cond.instanceMethod yX1_has, Cond.selects RX1 yX1_has yX1_has, Cond.code yX1_has cX1_has 2 (some .boolean)]
def wsL_law_r20 : List Cond := [Cond.methodLink RX4 141 yX1_failureAt, Cond.instanceMethod yX1_failureAt, Cond.selects RX1 yX1_failureAt yX1_failureAt, Cond.code yX1_failureAt cX1_failureAt 2 (some .int), Cond.methodLink RX4 144 yX1_timeAt, Cond.instanceMethod yX1_timeAt, Cond.selects RX1 yX1_timeAt yX1_timeAt, Cond.code yX1_timeAt cX1_timeAt 2 (some .int), Cond.methodLink RL 60 yX5_failed, Cond.instanceMethod yX5_failed, Cond.selects RX5 yX5_failed yX5_failed, Cond.code yX5_failed cX5_failed 3 (some .int), Cond.methodLink RL 61 yX4_count, Cond.instanceMethod yX4_count, Cond.selects RX4 yX4_count yX4_count, Cond.code yX4_count cX4_count 2 (some .int), Cond.methodLink RL 64 yX5_count, Cond.instanceMethod yX5_count, Cond.selects RX5 yX5_count yX5_count, Cond.code yX5_count cX5_count 2 (some .int), Cond.methodLink RL 65 yX4_why, Cond.instanceMethod yX4_why, Cond.selects RX4 yX4_why yX4_why, Cond.code yX4_why cX4_why 1 (some .int)]
def wsL_law_r21 : List Cond := [Cond.methodLink RL 68 yX5_why, Cond.instanceMethod yX5_why, Cond.selects RX5 yX5_why yX5_why, Cond.code yX5_why cX5_why 1 (some .int)]
def wsL_law : List Cond := (wsL_law_r1 ++ (wsL_law_r2 ++ (wsL_law_r3 ++ (wsL_law_r4 ++ (wsL_law_r5 ++ (wsL_law_r6 ++ (wsL_law_r7 ++ (wsL_law_r8 ++ (wsL_law_r9 ++ (wsL_law_r10 ++ (wsL_law_r11 ++ (wsL_law_r12 ++ (wsL_law_r13 ++ (wsL_law_r14 ++ (wsL_law_r15 ++ (wsL_law_r16 ++ (wsL_law_r17 ++ (wsL_law_r18 ++ (wsL_law_r19 ++ (wsL_law_r20 ++ wsL_law_r21)))))))))))))))))))) ++ wsX40 ++ wsX50 ++ wsX30 ++ wsX10 ++ wsX20 ++ wsX00 ++ ([] : List Cond)
end
section
theorem inJ9 : ∀ w ∈ wsJ90, w ∈ lw_tbl := by decide +kernel
theorem inJ10 : ∀ w ∈ wsJ100, w ∈ lw_tbl := by decide +kernel
theorem inJ7 : ∀ w ∈ wsJ70, w ∈ lw_tbl := by decide +kernel
theorem dX0_init_0 : decode cX0_init 0 = .ok (.aload_n 0, 1) := by decide +kernel
theorem dX0_init_1 : decode cX0_init 1 = .ok (.invokespecial 1, 3) := by decide +kernel
theorem dX0_init_4 : decode cX0_init 4 = .ok (.aload_n 0, 1) := by decide +kernel
theorem dX0_init_5 : decode cX0_init 5 = .ok (.iload_n 1, 1) := by decide +kernel
theorem dX0_init_6 : decode cX0_init 6 = .ok (.putfield 7, 3) := by decide +kernel
theorem dX0_init_9 : decode cX0_init 9 = .ok (.aload_n 0, 1) := by decide +kernel
theorem dX0_init_10 : decode cX0_init 10 = .ok (.iload_n 2, 1) := by decide +kernel
theorem dX0_init_11 : decode cX0_init 11 = .ok (.putfield 13, 3) := by decide +kernel
theorem dX0_init_14 : decode cX0_init 14 = .ok (.aload_n 0, 1) := by decide +kernel
theorem dX0_init_15 : decode cX0_init 15 = .ok (.iload_n 3, 1) := by decide +kernel
theorem dX0_init_16 : decode cX0_init 16 = .ok (.putfield 16, 3) := by decide +kernel
theorem dX0_init_19 : decode cX0_init 19 = .ok (.aload_n 0, 1) := by decide +kernel
theorem dX0_init_20 : decode cX0_init 20 = .ok (.iload 4, 2) := by decide +kernel
theorem dX0_init_22 : decode cX0_init 22 = .ok (.putfield 19, 3) := by decide +kernel
theorem dX0_init_25 : decode cX0_init 25 = .ok (.return_, 1) := by decide +kernel
theorem dX1_init_0 : decode cX1_init 0 = .ok (.aload_n 0, 1) := by decide +kernel
theorem dX1_init_1 : decode cX1_init 1 = .ok (.invokespecial 3, 3) := by decide +kernel
theorem dX1_init_4 : decode cX1_init 4 = .ok (.aload_n 0, 1) := by decide +kernel
theorem dX1_init_5 : decode cX1_init 5 = .ok (.bipush 30, 2) := by decide +kernel
theorem dX1_init_7 : decode cX1_init 7 = .ok (.newarray .int, 2) := by decide +kernel
theorem dX1_init_9 : decode cX1_init 9 = .ok (.putfield 9, 3) := by decide +kernel
theorem dX1_init_12 : decode cX1_init 12 = .ok (.aload_n 0, 1) := by decide +kernel
theorem dX1_init_13 : decode cX1_init 13 = .ok (.bipush 30, 2) := by decide +kernel
theorem dX1_init_15 : decode cX1_init 15 = .ok (.newarray .int, 2) := by decide +kernel
theorem dX1_init_17 : decode cX1_init 17 = .ok (.putfield 15, 3) := by decide +kernel
theorem dX1_init_20 : decode cX1_init 20 = .ok (.aload_n 0, 1) := by decide +kernel
theorem dX1_init_21 : decode cX1_init 21 = .ok (.bipush 30, 2) := by decide +kernel
theorem dX1_init_23 : decode cX1_init 23 = .ok (.newarray .int, 2) := by decide +kernel
theorem dX1_init_25 : decode cX1_init 25 = .ok (.putfield 18, 3) := by decide +kernel
theorem dX1_init_28 : decode cX1_init 28 = .ok (.return_, 1) := by decide +kernel
theorem dX1_keep_0 : decode cX1_keep 0 = .ok (.aload_n 0, 1) := by decide +kernel
theorem dX1_keep_1 : decode cX1_keep 1 = .ok (.getfield 21, 3) := by decide +kernel
theorem dX1_keep_4 : decode cX1_keep 4 = .ok (.bipush 30, 2) := by decide +kernel
theorem dX1_keep_6 : decode cX1_keep 6 = .ok (.if_icmp .lt 4, 3) := by decide +kernel
theorem dX1_keep_9 : decode cX1_keep 9 = .ok (.return_, 1) := by decide +kernel
theorem dX1_keep_10 : decode cX1_keep 10 = .ok (.aload_n 0, 1) := by decide +kernel
theorem dX1_keep_11 : decode cX1_keep 11 = .ok (.getfield 9, 3) := by decide +kernel
theorem dX1_keep_14 : decode cX1_keep 14 = .ok (.aload_n 0, 1) := by decide +kernel
theorem dX1_keep_15 : decode cX1_keep 15 = .ok (.getfield 21, 3) := by decide +kernel
theorem dX1_keep_18 : decode cX1_keep 18 = .ok (.iload_n 1, 1) := by decide +kernel
theorem dX1_keep_19 : decode cX1_keep 19 = .ok (.iastore, 1) := by decide +kernel
theorem dX1_keep_20 : decode cX1_keep 20 = .ok (.aload_n 0, 1) := by decide +kernel
theorem dX1_keep_21 : decode cX1_keep 21 = .ok (.getfield 15, 3) := by decide +kernel
theorem dX1_keep_24 : decode cX1_keep 24 = .ok (.aload_n 0, 1) := by decide +kernel
theorem dX1_keep_25 : decode cX1_keep 25 = .ok (.getfield 21, 3) := by decide +kernel
theorem dX1_keep_28 : decode cX1_keep 28 = .ok (.iload_n 2, 1) := by decide +kernel
theorem dX1_keep_29 : decode cX1_keep 29 = .ok (.iastore, 1) := by decide +kernel
theorem dX1_keep_30 : decode cX1_keep 30 = .ok (.aload_n 0, 1) := by decide +kernel
theorem dX1_keep_31 : decode cX1_keep 31 = .ok (.getfield 18, 3) := by decide +kernel
theorem dX1_keep_34 : decode cX1_keep 34 = .ok (.aload_n 0, 1) := by decide +kernel
theorem dX1_keep_35 : decode cX1_keep 35 = .ok (.getfield 21, 3) := by decide +kernel
theorem dX1_keep_38 : decode cX1_keep 38 = .ok (.iload_n 3, 1) := by decide +kernel
theorem dX1_keep_39 : decode cX1_keep 39 = .ok (.iastore, 1) := by decide +kernel
theorem dX1_keep_40 : decode cX1_keep 40 = .ok (.aload_n 0, 1) := by decide +kernel
theorem dX1_keep_41 : decode cX1_keep 41 = .ok (.dup, 1) := by decide +kernel
theorem dX1_keep_42 : decode cX1_keep 42 = .ok (.getfield 21, 3) := by decide +kernel
theorem dX1_keep_45 : decode cX1_keep 45 = .ok (.iconst 1, 1) := by decide +kernel
theorem dX1_keep_46 : decode cX1_keep 46 = .ok (.iadd, 1) := by decide +kernel
theorem dX1_keep_47 : decode cX1_keep 47 = .ok (.putfield 21, 3) := by decide +kernel
theorem dX1_keep_50 : decode cX1_keep 50 = .ok (.return_, 1) := by decide +kernel
set_option maxRecDepth 20000 in
theorem ggX1_actAt_X1_has : GoodIn wsX1_actAt wsX1_has := goodIn_r _ [6, 7, 8, 9, 10, 11] (by decide +kernel) (by decide +kernel)
set_option maxRecDepth 20000 in
theorem gX1_actAt_X1_has : GoodIn wsX1_actAt (wsV RX1 25 RX1 yX1_has wsX1_has) := goodIn_app (goodIn_of _ (by decide +kernel)) ggX1_actAt_X1_has
theorem dX1_actAt_0 : decode cX1_actAt 0 = .ok (.aload_n 0, 1) := by decide +kernel
theorem dX1_actAt_1 : decode cX1_actAt 1 = .ok (.iload_n 1, 1) := by decide +kernel
theorem dX1_actAt_2 : decode cX1_actAt 2 = .ok (.invokevirtual 25, 3) := by decide +kernel
theorem dX1_actAt_5 : decode cX1_actAt 5 = .ok (.ifCond .eq 12, 3) := by decide +kernel
theorem dX1_actAt_8 : decode cX1_actAt 8 = .ok (.aload_n 0, 1) := by decide +kernel
theorem dX1_actAt_9 : decode cX1_actAt 9 = .ok (.getfield 9, 3) := by decide +kernel
theorem dX1_actAt_12 : decode cX1_actAt 12 = .ok (.iload_n 1, 1) := by decide +kernel
theorem dX1_actAt_13 : decode cX1_actAt 13 = .ok (.iaload, 1) := by decide +kernel
theorem dX1_actAt_14 : decode cX1_actAt 14 = .ok (.goto 4, 3) := by decide +kernel
theorem dX1_actAt_17 : decode cX1_actAt 17 = .ok (.iconst (-1), 1) := by decide +kernel
theorem dX1_actAt_18 : decode cX1_actAt 18 = .ok (.ireturn, 1) := by decide +kernel
set_option maxRecDepth 20000 in
theorem ggX1_failureAt_X1_has : GoodIn wsX1_failureAt wsX1_has := goodIn_r _ [6, 7, 8, 9, 10, 11] (by decide +kernel) (by decide +kernel)
set_option maxRecDepth 20000 in
theorem gX1_failureAt_X1_has : GoodIn wsX1_failureAt (wsV RX1 25 RX1 yX1_has wsX1_has) := goodIn_app (goodIn_of _ (by decide +kernel)) ggX1_failureAt_X1_has
theorem dX1_failureAt_0 : decode cX1_failureAt 0 = .ok (.aload_n 0, 1) := by decide +kernel
theorem dX1_failureAt_1 : decode cX1_failureAt 1 = .ok (.iload_n 1, 1) := by decide +kernel
theorem dX1_failureAt_2 : decode cX1_failureAt 2 = .ok (.invokevirtual 25, 3) := by decide +kernel
theorem dX1_failureAt_5 : decode cX1_failureAt 5 = .ok (.ifCond .eq 12, 3) := by decide +kernel
theorem dX1_failureAt_8 : decode cX1_failureAt 8 = .ok (.aload_n 0, 1) := by decide +kernel
theorem dX1_failureAt_9 : decode cX1_failureAt 9 = .ok (.getfield 15, 3) := by decide +kernel
theorem dX1_failureAt_12 : decode cX1_failureAt 12 = .ok (.iload_n 1, 1) := by decide +kernel
theorem dX1_failureAt_13 : decode cX1_failureAt 13 = .ok (.iaload, 1) := by decide +kernel
theorem dX1_failureAt_14 : decode cX1_failureAt 14 = .ok (.goto 4, 3) := by decide +kernel
theorem dX1_failureAt_17 : decode cX1_failureAt 17 = .ok (.iconst (-1), 1) := by decide +kernel
theorem dX1_failureAt_18 : decode cX1_failureAt 18 = .ok (.ireturn, 1) := by decide +kernel
set_option maxRecDepth 20000 in
theorem ggX1_timeAt_X1_has : GoodIn wsX1_timeAt wsX1_has := goodIn_r _ [6, 7, 8, 9, 10, 11] (by decide +kernel) (by decide +kernel)
set_option maxRecDepth 20000 in
theorem gX1_timeAt_X1_has : GoodIn wsX1_timeAt (wsV RX1 25 RX1 yX1_has wsX1_has) := goodIn_app (goodIn_of _ (by decide +kernel)) ggX1_timeAt_X1_has
theorem dX1_timeAt_0 : decode cX1_timeAt 0 = .ok (.aload_n 0, 1) := by decide +kernel
theorem dX1_timeAt_1 : decode cX1_timeAt 1 = .ok (.iload_n 1, 1) := by decide +kernel
theorem dX1_timeAt_2 : decode cX1_timeAt 2 = .ok (.invokevirtual 25, 3) := by decide +kernel
theorem dX1_timeAt_5 : decode cX1_timeAt 5 = .ok (.ifCond .eq 12, 3) := by decide +kernel
theorem dX1_timeAt_8 : decode cX1_timeAt 8 = .ok (.aload_n 0, 1) := by decide +kernel
theorem dX1_timeAt_9 : decode cX1_timeAt 9 = .ok (.getfield 18, 3) := by decide +kernel
theorem dX1_timeAt_12 : decode cX1_timeAt 12 = .ok (.iload_n 1, 1) := by decide +kernel
theorem dX1_timeAt_13 : decode cX1_timeAt 13 = .ok (.iaload, 1) := by decide +kernel
theorem dX1_timeAt_14 : decode cX1_timeAt 14 = .ok (.goto 4, 3) := by decide +kernel
theorem dX1_timeAt_17 : decode cX1_timeAt 17 = .ok (.iconst (-1), 1) := by decide +kernel
theorem dX1_timeAt_18 : decode cX1_timeAt 18 = .ok (.ireturn, 1) := by decide +kernel
theorem dX1_has_0 : decode cX1_has 0 = .ok (.iload_n 1, 1) := by decide +kernel
theorem dX1_has_1 : decode cX1_has 1 = .ok (.ifCond .lt 21, 3) := by decide +kernel
theorem dX1_has_4 : decode cX1_has 4 = .ok (.iload_n 1, 1) := by decide +kernel
theorem dX1_has_5 : decode cX1_has 5 = .ok (.aload_n 0, 1) := by decide +kernel
theorem dX1_has_6 : decode cX1_has 6 = .ok (.getfield 21, 3) := by decide +kernel
theorem dX1_has_9 : decode cX1_has 9 = .ok (.if_icmp .ge 13, 3) := by decide +kernel
theorem dX1_has_12 : decode cX1_has 12 = .ok (.iload_n 1, 1) := by decide +kernel
theorem dX1_has_13 : decode cX1_has 13 = .ok (.bipush 30, 2) := by decide +kernel
theorem dX1_has_15 : decode cX1_has 15 = .ok (.if_icmp .ge 7, 3) := by decide +kernel
theorem dX1_has_18 : decode cX1_has 18 = .ok (.iconst 1, 1) := by decide +kernel
theorem dX1_has_19 : decode cX1_has 19 = .ok (.goto 4, 3) := by decide +kernel
theorem dX1_has_22 : decode cX1_has 22 = .ok (.iconst 0, 1) := by decide +kernel
theorem dX1_has_23 : decode cX1_has 23 = .ok (.ireturn, 1) := by decide +kernel
theorem dX2_init_0 : decode cX2_init 0 = .ok (.aload_n 0, 1) := by decide +kernel
theorem dX2_init_1 : decode cX2_init 1 = .ok (.invokespecial 1, 3) := by decide +kernel
theorem dX2_init_4 : decode cX2_init 4 = .ok (.aload_n 0, 1) := by decide +kernel
theorem dX2_init_5 : decode cX2_init 5 = .ok (.iload_n 1, 1) := by decide +kernel
theorem dX2_init_6 : decode cX2_init 6 = .ok (.putfield 7, 3) := by decide +kernel
theorem dX2_init_9 : decode cX2_init 9 = .ok (.aload_n 0, 1) := by decide +kernel
theorem dX2_init_10 : decode cX2_init 10 = .ok (.iload_n 2, 1) := by decide +kernel
theorem dX2_init_11 : decode cX2_init 11 = .ok (.putfield 13, 3) := by decide +kernel
theorem dX2_init_14 : decode cX2_init 14 = .ok (.aload_n 0, 1) := by decide +kernel
theorem dX2_init_15 : decode cX2_init 15 = .ok (.iload_n 3, 1) := by decide +kernel
theorem dX2_init_16 : decode cX2_init 16 = .ok (.putfield 16, 3) := by decide +kernel
theorem dX2_init_19 : decode cX2_init 19 = .ok (.aload_n 0, 1) := by decide +kernel
theorem dX2_init_20 : decode cX2_init 20 = .ok (.iload 4, 2) := by decide +kernel
theorem dX2_init_22 : decode cX2_init 22 = .ok (.putfield 19, 3) := by decide +kernel
theorem dX2_init_25 : decode cX2_init 25 = .ok (.aload_n 0, 1) := by decide +kernel
theorem dX2_init_26 : decode cX2_init 26 = .ok (.iload 5, 2) := by decide +kernel
theorem dX2_init_28 : decode cX2_init 28 = .ok (.putfield 22, 3) := by decide +kernel
theorem dX2_init_31 : decode cX2_init 31 = .ok (.return_, 1) := by decide +kernel
theorem dX3_init_0 : decode cX3_init 0 = .ok (.aload_n 0, 1) := by decide +kernel
theorem dX3_init_1 : decode cX3_init 1 = .ok (.invokespecial 3, 3) := by decide +kernel
theorem dX3_init_4 : decode cX3_init 4 = .ok (.aload_n 0, 1) := by decide +kernel
theorem dX3_init_5 : decode cX3_init 5 = .ok (.bipush 60, 2) := by decide +kernel
theorem dX3_init_7 : decode cX3_init 7 = .ok (.newarray .int, 2) := by decide +kernel
theorem dX3_init_9 : decode cX3_init 9 = .ok (.putfield 9, 3) := by decide +kernel
theorem dX3_init_12 : decode cX3_init 12 = .ok (.aload_n 0, 1) := by decide +kernel
theorem dX3_init_13 : decode cX3_init 13 = .ok (.bipush 60, 2) := by decide +kernel
theorem dX3_init_15 : decode cX3_init 15 = .ok (.newarray .int, 2) := by decide +kernel
theorem dX3_init_17 : decode cX3_init 17 = .ok (.putfield 15, 3) := by decide +kernel
theorem dX3_init_20 : decode cX3_init 20 = .ok (.return_, 1) := by decide +kernel
theorem dX3_join_0 : decode cX3_join 0 = .ok (.aload_n 0, 1) := by decide +kernel
theorem dX3_join_1 : decode cX3_join 1 = .ok (.getfield 18, 3) := by decide +kernel
theorem dX3_join_4 : decode cX3_join 4 = .ok (.bipush 60, 2) := by decide +kernel
theorem dX3_join_6 : decode cX3_join 6 = .ok (.if_icmp .lt 4, 3) := by decide +kernel
theorem dX3_join_9 : decode cX3_join 9 = .ok (.return_, 1) := by decide +kernel
theorem dX3_join_10 : decode cX3_join 10 = .ok (.aload_n 0, 1) := by decide +kernel
theorem dX3_join_11 : decode cX3_join 11 = .ok (.getfield 9, 3) := by decide +kernel
theorem dX3_join_14 : decode cX3_join 14 = .ok (.aload_n 0, 1) := by decide +kernel
theorem dX3_join_15 : decode cX3_join 15 = .ok (.getfield 18, 3) := by decide +kernel
theorem dX3_join_18 : decode cX3_join 18 = .ok (.iload_n 1, 1) := by decide +kernel
theorem dX3_join_19 : decode cX3_join 19 = .ok (.iastore, 1) := by decide +kernel
theorem dX3_join_20 : decode cX3_join 20 = .ok (.aload_n 0, 1) := by decide +kernel
theorem dX3_join_21 : decode cX3_join 21 = .ok (.getfield 15, 3) := by decide +kernel
theorem dX3_join_24 : decode cX3_join 24 = .ok (.aload_n 0, 1) := by decide +kernel
theorem dX3_join_25 : decode cX3_join 25 = .ok (.getfield 18, 3) := by decide +kernel
theorem dX3_join_28 : decode cX3_join 28 = .ok (.iload_n 2, 1) := by decide +kernel
theorem dX3_join_29 : decode cX3_join 29 = .ok (.iastore, 1) := by decide +kernel
theorem dX3_join_30 : decode cX3_join 30 = .ok (.aload_n 0, 1) := by decide +kernel
theorem dX3_join_31 : decode cX3_join 31 = .ok (.dup, 1) := by decide +kernel
theorem dX3_join_32 : decode cX3_join 32 = .ok (.getfield 18, 3) := by decide +kernel
theorem dX3_join_35 : decode cX3_join 35 = .ok (.iconst 1, 1) := by decide +kernel
theorem dX3_join_36 : decode cX3_join 36 = .ok (.iadd, 1) := by decide +kernel
theorem dX3_join_37 : decode cX3_join 37 = .ok (.putfield 18, 3) := by decide +kernel
theorem dX3_join_40 : decode cX3_join 40 = .ok (.return_, 1) := by decide +kernel
set_option maxRecDepth 20000 in
theorem ggX3_takeFirstFor_X3_closeGapAt : GoodIn wsX3_takeFirstFor wsX3_closeGapAt := goodIn_r _ [8, 1, 3, 2, 9, 10, 11] (by decide +kernel) (by decide +kernel)
set_option maxRecDepth 20000 in
theorem gX3_takeFirstFor_X3_closeGapAt : GoodIn wsX3_takeFirstFor (wsV RX3 22 RX3 yX3_closeGapAt wsX3_closeGapAt) := goodIn_app (goodIn_of _ (by decide +kernel)) ggX3_takeFirstFor_X3_closeGapAt
theorem dX3_takeFirstFor_0 : decode cX3_takeFirstFor 0 = .ok (.iconst 0, 1) := by decide +kernel
theorem dX3_takeFirstFor_1 : decode cX3_takeFirstFor 1 = .ok (.istore_n 2, 1) := by decide +kernel
theorem dX3_takeFirstFor_2 : decode cX3_takeFirstFor 2 = .ok (.iload_n 2, 1) := by decide +kernel
theorem dX3_takeFirstFor_3 : decode cX3_takeFirstFor 3 = .ok (.aload_n 0, 1) := by decide +kernel
theorem dX3_takeFirstFor_4 : decode cX3_takeFirstFor 4 = .ok (.getfield 18, 3) := by decide +kernel
theorem dX3_takeFirstFor_7 : decode cX3_takeFirstFor 7 = .ok (.if_icmp .ge 39, 3) := by decide +kernel
theorem dX3_takeFirstFor_10 : decode cX3_takeFirstFor 10 = .ok (.iload_n 2, 1) := by decide +kernel
theorem dX3_takeFirstFor_11 : decode cX3_takeFirstFor 11 = .ok (.bipush 60, 2) := by decide +kernel
theorem dX3_takeFirstFor_13 : decode cX3_takeFirstFor 13 = .ok (.if_icmp .ge 33, 3) := by decide +kernel
theorem dX3_takeFirstFor_16 : decode cX3_takeFirstFor 16 = .ok (.aload_n 0, 1) := by decide +kernel
theorem dX3_takeFirstFor_17 : decode cX3_takeFirstFor 17 = .ok (.getfield 15, 3) := by decide +kernel
theorem dX3_takeFirstFor_20 : decode cX3_takeFirstFor 20 = .ok (.iload_n 2, 1) := by decide +kernel
theorem dX3_takeFirstFor_21 : decode cX3_takeFirstFor 21 = .ok (.iaload, 1) := by decide +kernel
theorem dX3_takeFirstFor_22 : decode cX3_takeFirstFor 22 = .ok (.iload_n 1, 1) := by decide +kernel
theorem dX3_takeFirstFor_23 : decode cX3_takeFirstFor 23 = .ok (.if_icmp .ne 17, 3) := by decide +kernel
theorem dX3_takeFirstFor_26 : decode cX3_takeFirstFor 26 = .ok (.aload_n 0, 1) := by decide +kernel
theorem dX3_takeFirstFor_27 : decode cX3_takeFirstFor 27 = .ok (.getfield 9, 3) := by decide +kernel
theorem dX3_takeFirstFor_30 : decode cX3_takeFirstFor 30 = .ok (.iload_n 2, 1) := by decide +kernel
theorem dX3_takeFirstFor_31 : decode cX3_takeFirstFor 31 = .ok (.iaload, 1) := by decide +kernel
theorem dX3_takeFirstFor_32 : decode cX3_takeFirstFor 32 = .ok (.istore_n 3, 1) := by decide +kernel
theorem dX3_takeFirstFor_33 : decode cX3_takeFirstFor 33 = .ok (.aload_n 0, 1) := by decide +kernel
theorem dX3_takeFirstFor_34 : decode cX3_takeFirstFor 34 = .ok (.iload_n 2, 1) := by decide +kernel
theorem dX3_takeFirstFor_35 : decode cX3_takeFirstFor 35 = .ok (.invokevirtual 22, 3) := by decide +kernel
theorem dX3_takeFirstFor_38 : decode cX3_takeFirstFor 38 = .ok (.iload_n 3, 1) := by decide +kernel
theorem dX3_takeFirstFor_39 : decode cX3_takeFirstFor 39 = .ok (.ireturn, 1) := by decide +kernel
theorem dX3_takeFirstFor_40 : decode cX3_takeFirstFor 40 = .ok (.iinc 2 1, 3) := by decide +kernel
theorem dX3_takeFirstFor_43 : decode cX3_takeFirstFor 43 = .ok (.goto (-41), 3) := by decide +kernel
theorem dX3_takeFirstFor_46 : decode cX3_takeFirstFor 46 = .ok (.iconst (-1), 1) := by decide +kernel
theorem dX3_takeFirstFor_47 : decode cX3_takeFirstFor 47 = .ok (.ireturn, 1) := by decide +kernel
theorem dX3_closeGapAt_0 : decode cX3_closeGapAt 0 = .ok (.iload_n 1, 1) := by decide +kernel
theorem dX3_closeGapAt_1 : decode cX3_closeGapAt 1 = .ok (.istore_n 2, 1) := by decide +kernel
theorem dX3_closeGapAt_2 : decode cX3_closeGapAt 2 = .ok (.iload_n 2, 1) := by decide +kernel
theorem dX3_closeGapAt_3 : decode cX3_closeGapAt 3 = .ok (.iconst 1, 1) := by decide +kernel
theorem dX3_closeGapAt_4 : decode cX3_closeGapAt 4 = .ok (.iadd, 1) := by decide +kernel
theorem dX3_closeGapAt_5 : decode cX3_closeGapAt 5 = .ok (.aload_n 0, 1) := by decide +kernel
theorem dX3_closeGapAt_6 : decode cX3_closeGapAt 6 = .ok (.getfield 18, 3) := by decide +kernel
theorem dX3_closeGapAt_9 : decode cX3_closeGapAt 9 = .ok (.if_icmp .ge 45, 3) := by decide +kernel
theorem dX3_closeGapAt_12 : decode cX3_closeGapAt 12 = .ok (.iload_n 2, 1) := by decide +kernel
theorem dX3_closeGapAt_13 : decode cX3_closeGapAt 13 = .ok (.iconst 1, 1) := by decide +kernel
theorem dX3_closeGapAt_14 : decode cX3_closeGapAt 14 = .ok (.iadd, 1) := by decide +kernel
theorem dX3_closeGapAt_15 : decode cX3_closeGapAt 15 = .ok (.bipush 60, 2) := by decide +kernel
theorem dX3_closeGapAt_17 : decode cX3_closeGapAt 17 = .ok (.if_icmp .ge 37, 3) := by decide +kernel
theorem dX3_closeGapAt_20 : decode cX3_closeGapAt 20 = .ok (.aload_n 0, 1) := by decide +kernel
theorem dX3_closeGapAt_21 : decode cX3_closeGapAt 21 = .ok (.getfield 9, 3) := by decide +kernel
theorem dX3_closeGapAt_24 : decode cX3_closeGapAt 24 = .ok (.iload_n 2, 1) := by decide +kernel
theorem dX3_closeGapAt_25 : decode cX3_closeGapAt 25 = .ok (.aload_n 0, 1) := by decide +kernel
theorem dX3_closeGapAt_26 : decode cX3_closeGapAt 26 = .ok (.getfield 9, 3) := by decide +kernel
theorem dX3_closeGapAt_29 : decode cX3_closeGapAt 29 = .ok (.iload_n 2, 1) := by decide +kernel
theorem dX3_closeGapAt_30 : decode cX3_closeGapAt 30 = .ok (.iconst 1, 1) := by decide +kernel
theorem dX3_closeGapAt_31 : decode cX3_closeGapAt 31 = .ok (.iadd, 1) := by decide +kernel
theorem dX3_closeGapAt_32 : decode cX3_closeGapAt 32 = .ok (.iaload, 1) := by decide +kernel
theorem dX3_closeGapAt_33 : decode cX3_closeGapAt 33 = .ok (.iastore, 1) := by decide +kernel
theorem dX3_closeGapAt_34 : decode cX3_closeGapAt 34 = .ok (.aload_n 0, 1) := by decide +kernel
theorem dX3_closeGapAt_35 : decode cX3_closeGapAt 35 = .ok (.getfield 15, 3) := by decide +kernel
theorem dX3_closeGapAt_38 : decode cX3_closeGapAt 38 = .ok (.iload_n 2, 1) := by decide +kernel
theorem dX3_closeGapAt_39 : decode cX3_closeGapAt 39 = .ok (.aload_n 0, 1) := by decide +kernel
theorem dX3_closeGapAt_40 : decode cX3_closeGapAt 40 = .ok (.getfield 15, 3) := by decide +kernel
theorem dX3_closeGapAt_43 : decode cX3_closeGapAt 43 = .ok (.iload_n 2, 1) := by decide +kernel
theorem dX3_closeGapAt_44 : decode cX3_closeGapAt 44 = .ok (.iconst 1, 1) := by decide +kernel
theorem dX3_closeGapAt_45 : decode cX3_closeGapAt 45 = .ok (.iadd, 1) := by decide +kernel
theorem dX3_closeGapAt_46 : decode cX3_closeGapAt 46 = .ok (.iaload, 1) := by decide +kernel
theorem dX3_closeGapAt_47 : decode cX3_closeGapAt 47 = .ok (.iastore, 1) := by decide +kernel
theorem dX3_closeGapAt_48 : decode cX3_closeGapAt 48 = .ok (.iinc 2 1, 3) := by decide +kernel
theorem dX3_closeGapAt_51 : decode cX3_closeGapAt 51 = .ok (.goto (-49), 3) := by decide +kernel
theorem dX3_closeGapAt_54 : decode cX3_closeGapAt 54 = .ok (.aload_n 0, 1) := by decide +kernel
theorem dX3_closeGapAt_55 : decode cX3_closeGapAt 55 = .ok (.dup, 1) := by decide +kernel
theorem dX3_closeGapAt_56 : decode cX3_closeGapAt 56 = .ok (.getfield 18, 3) := by decide +kernel
theorem dX3_closeGapAt_59 : decode cX3_closeGapAt 59 = .ok (.iconst 1, 1) := by decide +kernel
theorem dX3_closeGapAt_60 : decode cX3_closeGapAt 60 = .ok (.isub, 1) := by decide +kernel
theorem dX3_closeGapAt_61 : decode cX3_closeGapAt 61 = .ok (.putfield 18, 3) := by decide +kernel
theorem dX3_closeGapAt_64 : decode cX3_closeGapAt 64 = .ok (.return_, 1) := by decide +kernel
set_option maxRecDepth 20000 in
theorem ggX4_init_X3_init : GoodIn wsX4_init wsX3_init := goodIn_r _ [22, 23, 2, 3, 4, 24, 25, 52, 53, 54] (by decide +kernel) (by decide +kernel)
set_option maxRecDepth 20000 in
theorem gX4_init_X3_init_n35 : GoodIn wsX4_init (wsX3_init) := ggX4_init_X3_init
set_option maxRecDepth 20000 in
theorem ggX4_init_X1_init : GoodIn wsX4_init wsX1_init := goodIn_r _ [27, 28, 2, 3, 4, 29, 30, 31, 55, 56, 57, 58] (by decide +kernel) (by decide +kernel)
set_option maxRecDepth 20000 in
theorem gX4_init_X1_init_n42 : GoodIn wsX4_init (wsX1_init) := ggX4_init_X1_init
set_option maxRecDepth 20000 in
theorem ggX4_init_J7_fill_53178 : GoodIn wsX4_init wsJ7_fill_53178 := goodIn_r _ [35] (by decide +kernel) (by decide +kernel)
set_option maxRecDepth 20000 in
theorem gX4_init_J7_fill_53178 : GoodIn wsX4_init (va_wsS RX4 47 yJ7_fill_53178 wsJ7_fill_53178) := goodIn_app (goodIn_of _ (by decide +kernel)) ggX4_init_J7_fill_53178
theorem dX4_init_0 : decode cX4_init 0 = .ok (.aload_n 0, 1) := by decide +kernel
theorem dX4_init_1 : decode cX4_init 1 = .ok (.invokespecial 1, 3) := by decide +kernel
theorem dX4_init_4 : decode cX4_init 4 = .ok (.aload_n 0, 1) := by decide +kernel
theorem dX4_init_5 : decode cX4_init 5 = .ok (.bipush 8, 2) := by decide +kernel
theorem dX4_init_7 : decode cX4_init 7 = .ok (.newarray .int, 2) := by decide +kernel
theorem dX4_init_9 : decode cX4_init 9 = .ok (.putfield 9, 3) := by decide +kernel
theorem dX4_init_12 : decode cX4_init 12 = .ok (.aload_n 0, 1) := by decide +kernel
theorem dX4_init_13 : decode cX4_init 13 = .ok (.bipush 6, 2) := by decide +kernel
theorem dX4_init_15 : decode cX4_init 15 = .ok (.newarray .int, 2) := by decide +kernel
theorem dX4_init_17 : decode cX4_init 17 = .ok (.putfield 13, 3) := by decide +kernel
theorem dX4_init_20 : decode cX4_init 20 = .ok (.aload_n 0, 1) := by decide +kernel
theorem dX4_init_21 : decode cX4_init 21 = .ok (.bipush 40, 2) := by decide +kernel
theorem dX4_init_23 : decode cX4_init 23 = .ok (.bipush 6, 2) := by decide +kernel
theorem dX4_init_25 : decode cX4_init 25 = .ok (.multianewarray 16 2, 4) := by decide +kernel
theorem dX4_init_29 : decode cX4_init 29 = .ok (.putfield 18, 3) := by decide +kernel
theorem dX4_init_32 : decode cX4_init 32 = .ok (.aload_n 0, 1) := by decide +kernel
theorem dX4_init_33 : decode cX4_init 33 = .ok (.bipush 40, 2) := by decide +kernel
theorem dX4_init_35 : decode cX4_init 35 = .ok (.anewarray 21, 3) := by decide +kernel
theorem dX4_init_38 : decode cX4_init 38 = .ok (.putfield 23, 3) := by decide +kernel
theorem dX4_init_41 : decode cX4_init 41 = .ok (.aload_n 0, 1) := by decide +kernel
theorem dX4_init_42 : decode cX4_init 42 = .ok (.bipush 40, 2) := by decide +kernel
theorem dX4_init_44 : decode cX4_init 44 = .ok (.anewarray 27, 3) := by decide +kernel
theorem dX4_init_47 : decode cX4_init 47 = .ok (.putfield 29, 3) := by decide +kernel
theorem dX4_init_50 : decode cX4_init 50 = .ok (.aload_n 0, 1) := by decide +kernel
theorem dX4_init_51 : decode cX4_init 51 = .ok (.new 33, 3) := by decide +kernel
theorem dX4_init_54 : decode cX4_init 54 = .ok (.dup, 1) := by decide +kernel
theorem dX4_init_55 : decode cX4_init 55 = .ok (.invokespecial 35, 3) := by decide +kernel
theorem dX4_init_58 : decode cX4_init 58 = .ok (.putfield 36, 3) := by decide +kernel
theorem dX4_init_61 : decode cX4_init 61 = .ok (.aload_n 0, 1) := by decide +kernel
theorem dX4_init_62 : decode cX4_init 62 = .ok (.new 40, 3) := by decide +kernel
theorem dX4_init_65 : decode cX4_init 65 = .ok (.dup, 1) := by decide +kernel
theorem dX4_init_66 : decode cX4_init 66 = .ok (.invokespecial 42, 3) := by decide +kernel
theorem dX4_init_69 : decode cX4_init 69 = .ok (.putfield 43, 3) := by decide +kernel
theorem dX4_init_72 : decode cX4_init 72 = .ok (.aload_n 0, 1) := by decide +kernel
theorem dX4_init_73 : decode cX4_init 73 = .ok (.getfield 13, 3) := by decide +kernel
theorem dX4_init_76 : decode cX4_init 76 = .ok (.bipush 100, 2) := by decide +kernel
theorem dX4_init_78 : decode cX4_init 78 = .ok (.invokestatic 47, 3) := by decide +kernel
theorem dX4_init_81 : decode cX4_init 81 = .ok (.return_, 1) := by decide +kernel
set_option maxRecDepth 20000 in
theorem ggX4_show_X4_isSensor : GoodIn wsX4_show wsX4_isSensor := goodIn_r _ [6] (by decide +kernel) (by decide +kernel)
set_option maxRecDepth 20000 in
theorem gX4_show_X4_isSensor : GoodIn wsX4_show (va_wsS RX4 53 yX4_isSensor wsX4_isSensor) := goodIn_app (goodIn_of _ (by decide +kernel)) ggX4_show_X4_isSensor
theorem dX4_show_0 : decode cX4_show 0 = .ok (.aload_n 0, 1) := by decide +kernel
theorem dX4_show_1 : decode cX4_show 1 = .ok (.iload_n 1, 1) := by decide +kernel
theorem dX4_show_2 : decode cX4_show 2 = .ok (.invokestatic 53, 3) := by decide +kernel
theorem dX4_show_5 : decode cX4_show 5 = .ok (.ifCond .eq 7, 3) := by decide +kernel
theorem dX4_show_8 : decode cX4_show 8 = .ok (.iconst 0, 1) := by decide +kernel
theorem dX4_show_9 : decode cX4_show 9 = .ok (.goto 5, 3) := by decide +kernel
theorem dX4_show_12 : decode cX4_show 12 = .ok (.bipush (-2), 2) := by decide +kernel
theorem dX4_show_14 : decode cX4_show 14 = .ok (.putfield 57, 3) := by decide +kernel
theorem dX4_show_17 : decode cX4_show 17 = .ok (.aload_n 0, 1) := by decide +kernel
theorem dX4_show_18 : decode cX4_show 18 = .ok (.getfield 57, 3) := by decide +kernel
theorem dX4_show_21 : decode cX4_show 21 = .ok (.ifCond .eq 5, 3) := by decide +kernel
theorem dX4_show_24 : decode cX4_show 24 = .ok (.iconst 0, 1) := by decide +kernel
theorem dX4_show_25 : decode cX4_show 25 = .ok (.ireturn, 1) := by decide +kernel
theorem dX4_show_26 : decode cX4_show 26 = .ok (.aload_n 0, 1) := by decide +kernel
theorem dX4_show_27 : decode cX4_show 27 = .ok (.getfield 9, 3) := by decide +kernel
theorem dX4_show_30 : decode cX4_show 30 = .ok (.iload_n 1, 1) := by decide +kernel
theorem dX4_show_31 : decode cX4_show 31 = .ok (.iaload, 1) := by decide +kernel
theorem dX4_show_32 : decode cX4_show 32 = .ok (.istore_n 3, 1) := by decide +kernel
theorem dX4_show_33 : decode cX4_show 33 = .ok (.aload_n 0, 1) := by decide +kernel
theorem dX4_show_34 : decode cX4_show 34 = .ok (.getfield 9, 3) := by decide +kernel
theorem dX4_show_37 : decode cX4_show 37 = .ok (.iload_n 1, 1) := by decide +kernel
theorem dX4_show_38 : decode cX4_show 38 = .ok (.iload_n 2, 1) := by decide +kernel
theorem dX4_show_39 : decode cX4_show 39 = .ok (.iastore, 1) := by decide +kernel
theorem dX4_show_40 : decode cX4_show 40 = .ok (.iload_n 3, 1) := by decide +kernel
theorem dX4_show_41 : decode cX4_show 41 = .ok (.ireturn, 1) := by decide +kernel
set_option maxRecDepth 20000 in
theorem ggX4_shown_X4_isSensor : GoodIn wsX4_shown wsX4_isSensor := goodIn_r _ [5] (by decide +kernel) (by decide +kernel)
set_option maxRecDepth 20000 in
theorem gX4_shown_X4_isSensor : GoodIn wsX4_shown (va_wsS RX4 53 yX4_isSensor wsX4_isSensor) := goodIn_app (goodIn_of _ (by decide +kernel)) ggX4_shown_X4_isSensor
set_option maxRecDepth 20000 in
theorem ggX4_shown_X4_reading : GoodIn wsX4_shown wsX4_reading := goodIn_r _ [9, 10, 11, 12, 13, 14, 15, 16, 17, 18, 19, 20, 21, 22, 23, 24, 25, 26] (by decide +kernel) (by decide +kernel)
set_option maxRecDepth 20000 in
theorem gX4_shown_X4_reading : GoodIn wsX4_shown (wsV RX4 61 RX4 yX4_reading wsX4_reading) := goodIn_app (goodIn_of _ (by decide +kernel)) ggX4_shown_X4_reading
theorem dX4_shown_0 : decode cX4_shown 0 = .ok (.aload_n 0, 1) := by decide +kernel
theorem dX4_shown_1 : decode cX4_shown 1 = .ok (.iload_n 1, 1) := by decide +kernel
theorem dX4_shown_2 : decode cX4_shown 2 = .ok (.invokestatic 53, 3) := by decide +kernel
theorem dX4_shown_5 : decode cX4_shown 5 = .ok (.ifCond .eq 7, 3) := by decide +kernel
theorem dX4_shown_8 : decode cX4_shown 8 = .ok (.iconst 0, 1) := by decide +kernel
theorem dX4_shown_9 : decode cX4_shown 9 = .ok (.goto 5, 3) := by decide +kernel
theorem dX4_shown_12 : decode cX4_shown 12 = .ok (.bipush (-2), 2) := by decide +kernel
theorem dX4_shown_14 : decode cX4_shown 14 = .ok (.putfield 57, 3) := by decide +kernel
theorem dX4_shown_17 : decode cX4_shown 17 = .ok (.aload_n 0, 1) := by decide +kernel
theorem dX4_shown_18 : decode cX4_shown 18 = .ok (.iload_n 1, 1) := by decide +kernel
theorem dX4_shown_19 : decode cX4_shown 19 = .ok (.invokevirtual 61, 3) := by decide +kernel
theorem dX4_shown_22 : decode cX4_shown 22 = .ok (.ireturn, 1) := by decide +kernel
set_option maxRecDepth 20000 in
theorem ggX4_fill_X4_isTank : GoodIn wsX4_fill wsX4_isTank := goodIn_r _ [6] (by decide +kernel) (by decide +kernel)
set_option maxRecDepth 20000 in
theorem gX4_fill_X4_isTank : GoodIn wsX4_fill (va_wsS RX4 65 yX4_isTank wsX4_isTank) := goodIn_app (goodIn_of _ (by decide +kernel)) ggX4_fill_X4_isTank
set_option maxRecDepth 20000 in
theorem ggX4_fill_X4_isWithin : GoodIn wsX4_fill wsX4_isWithin := goodIn_r _ [9] (by decide +kernel) (by decide +kernel)
set_option maxRecDepth 20000 in
theorem gX4_fill_X4_isWithin : GoodIn wsX4_fill (va_wsS RX4 69 yX4_isWithin wsX4_isWithin) := goodIn_app (goodIn_of _ (by decide +kernel)) ggX4_fill_X4_isWithin
theorem dX4_fill_0 : decode cX4_fill 0 = .ok (.iload_n 1, 1) := by decide +kernel
theorem dX4_fill_1 : decode cX4_fill 1 = .ok (.invokestatic 65, 3) := by decide +kernel
theorem dX4_fill_4 : decode cX4_fill 4 = .ok (.ifCond .ne 6, 3) := by decide +kernel
theorem dX4_fill_7 : decode cX4_fill 7 = .ok (.bipush (-2), 2) := by decide +kernel
theorem dX4_fill_9 : decode cX4_fill 9 = .ok (.ireturn, 1) := by decide +kernel
theorem dX4_fill_10 : decode cX4_fill 10 = .ok (.iload_n 2, 1) := by decide +kernel
theorem dX4_fill_11 : decode cX4_fill 11 = .ok (.iconst 0, 1) := by decide +kernel
theorem dX4_fill_12 : decode cX4_fill 12 = .ok (.ldc 68, 2) := by decide +kernel
theorem dX4_fill_14 : decode cX4_fill 14 = .ok (.invokestatic 69, 3) := by decide +kernel
theorem dX4_fill_17 : decode cX4_fill 17 = .ok (.ifCond .ne 6, 3) := by decide +kernel
theorem dX4_fill_20 : decode cX4_fill 20 = .ok (.bipush (-3), 2) := by decide +kernel
theorem dX4_fill_22 : decode cX4_fill 22 = .ok (.ireturn, 1) := by decide +kernel
theorem dX4_fill_23 : decode cX4_fill 23 = .ok (.aload_n 0, 1) := by decide +kernel
theorem dX4_fill_24 : decode cX4_fill 24 = .ok (.getfield 13, 3) := by decide +kernel
theorem dX4_fill_27 : decode cX4_fill 27 = .ok (.iload_n 1, 1) := by decide +kernel
theorem dX4_fill_28 : decode cX4_fill 28 = .ok (.iaload, 1) := by decide +kernel
theorem dX4_fill_29 : decode cX4_fill 29 = .ok (.istore_n 3, 1) := by decide +kernel
theorem dX4_fill_30 : decode cX4_fill 30 = .ok (.aload_n 0, 1) := by decide +kernel
theorem dX4_fill_31 : decode cX4_fill 31 = .ok (.getfield 13, 3) := by decide +kernel
theorem dX4_fill_34 : decode cX4_fill 34 = .ok (.iload_n 1, 1) := by decide +kernel
theorem dX4_fill_35 : decode cX4_fill 35 = .ok (.iload_n 2, 1) := by decide +kernel
theorem dX4_fill_36 : decode cX4_fill 36 = .ok (.iastore, 1) := by decide +kernel
theorem dX4_fill_37 : decode cX4_fill 37 = .ok (.iload_n 3, 1) := by decide +kernel
theorem dX4_fill_38 : decode cX4_fill 38 = .ok (.ireturn, 1) := by decide +kernel
set_option maxRecDepth 20000 in
theorem ggX4_tank_X4_isTank : GoodIn wsX4_tank wsX4_isTank := goodIn_r _ [5] (by decide +kernel) (by decide +kernel)
set_option maxRecDepth 20000 in
theorem gX4_tank_X4_isTank : GoodIn wsX4_tank (va_wsS RX4 65 yX4_isTank wsX4_isTank) := goodIn_app (goodIn_of _ (by decide +kernel)) ggX4_tank_X4_isTank
theorem dX4_tank_0 : decode cX4_tank 0 = .ok (.iload_n 1, 1) := by decide +kernel
theorem dX4_tank_1 : decode cX4_tank 1 = .ok (.invokestatic 65, 3) := by decide +kernel
theorem dX4_tank_4 : decode cX4_tank 4 = .ok (.ifCond .eq 12, 3) := by decide +kernel
theorem dX4_tank_7 : decode cX4_tank 7 = .ok (.aload_n 0, 1) := by decide +kernel
theorem dX4_tank_8 : decode cX4_tank 8 = .ok (.getfield 13, 3) := by decide +kernel
theorem dX4_tank_11 : decode cX4_tank 11 = .ok (.iload_n 1, 1) := by decide +kernel
theorem dX4_tank_12 : decode cX4_tank 12 = .ok (.iaload, 1) := by decide +kernel
theorem dX4_tank_13 : decode cX4_tank 13 = .ok (.goto 5, 3) := by decide +kernel
theorem dX4_tank_16 : decode cX4_tank 16 = .ok (.bipush (-2), 2) := by decide +kernel
theorem dX4_tank_18 : decode cX4_tank 18 = .ok (.ireturn, 1) := by decide +kernel
set_option maxRecDepth 20000 in
theorem ggX4_rule_X4_isWithin : GoodIn wsX4_rule wsX4_isWithin := goodIn_r _ [9] (by decide +kernel) (by decide +kernel)
set_option maxRecDepth 20000 in
theorem gX4_rule_X4_isWithin : GoodIn wsX4_rule (va_wsS RX4 69 yX4_isWithin wsX4_isWithin) := goodIn_app (goodIn_of _ (by decide +kernel)) ggX4_rule_X4_isWithin
set_option maxRecDepth 20000 in
theorem ggX4_rule_X4_knowsPartsOfRule : GoodIn wsX4_rule wsX4_knowsPartsOfRule := goodIn_r _ [13, 14, 15, 8, 16, 17, 18, 19, 20, 21, 22, 23, 24, 1, 2, 44, 45, 46, 47, 48, 49, 50, 51, 52, 53, 54, 55, 56, 57, 58, 59] (by decide +kernel) (by decide +kernel)
set_option maxRecDepth 20000 in
theorem gX4_rule_X4_knowsPartsOfRule : GoodIn wsX4_rule (wsV RX4 73 RX4 yX4_knowsPartsOfRule wsX4_knowsPartsOfRule) := goodIn_app (goodIn_of _ (by decide +kernel)) ggX4_rule_X4_knowsPartsOfRule
set_option maxRecDepth 20000 in
theorem ggX4_rule_X4_hasNumbersOfRule : GoodIn wsX4_rule wsX4_hasNumbersOfRule := goodIn_r _ [27, 6, 7, 8, 9] (by decide +kernel) (by decide +kernel)
set_option maxRecDepth 20000 in
theorem gX4_rule_X4_hasNumbersOfRule : GoodIn wsX4_rule (va_wsS RX4 76 yX4_hasNumbersOfRule wsX4_hasNumbersOfRule) := goodIn_app (goodIn_of _ (by decide +kernel)) ggX4_rule_X4_hasNumbersOfRule
set_option maxRecDepth 20000 in
theorem ggX4_rule_X4_reading : GoodIn wsX4_rule wsX4_reading := goodIn_r _ [31, 32, 44, 45, 46, 47, 48, 49, 50, 51, 52, 53, 54, 55, 56, 57, 58, 59] (by decide +kernel) (by decide +kernel)
set_option maxRecDepth 20000 in
theorem gX4_rule_X4_reading : GoodIn wsX4_rule (wsV RX4 61 RX4 yX4_reading wsX4_reading) := goodIn_app (goodIn_of _ (by decide +kernel)) ggX4_rule_X4_reading
set_option maxRecDepth 20000 in
theorem ggX4_rule_X2_init : GoodIn wsX4_rule wsX2_init := goodIn_r _ [35, 36, 37, 38, 39, 40, 41, 42, 43, 60, 61, 62, 63, 64, 65] (by decide +kernel) (by decide +kernel)
set_option maxRecDepth 20000 in
theorem gX4_rule_X2_init : GoodIn wsX4_rule (wsX2_init) := ggX4_rule_X2_init
theorem dX4_rule_0 : decode cX4_rule 0 = .ok (.iload_n 1, 1) := by decide +kernel
theorem dX4_rule_1 : decode cX4_rule 1 = .ok (.iconst 0, 1) := by decide +kernel
theorem dX4_rule_2 : decode cX4_rule 2 = .ok (.bipush 9, 2) := by decide +kernel
theorem dX4_rule_4 : decode cX4_rule 4 = .ok (.invokestatic 69, 3) := by decide +kernel
theorem dX4_rule_7 : decode cX4_rule 7 = .ok (.ifCond .ne 6, 3) := by decide +kernel
theorem dX4_rule_10 : decode cX4_rule 10 = .ok (.bipush (-3), 2) := by decide +kernel
theorem dX4_rule_12 : decode cX4_rule 12 = .ok (.ireturn, 1) := by decide +kernel
theorem dX4_rule_13 : decode cX4_rule 13 = .ok (.aload_n 0, 1) := by decide +kernel
theorem dX4_rule_14 : decode cX4_rule 14 = .ok (.iload_n 1, 1) := by decide +kernel
theorem dX4_rule_15 : decode cX4_rule 15 = .ok (.iload_n 2, 1) := by decide +kernel
theorem dX4_rule_16 : decode cX4_rule 16 = .ok (.iload_n 3, 1) := by decide +kernel
theorem dX4_rule_17 : decode cX4_rule 17 = .ok (.invokevirtual 73, 3) := by decide +kernel
theorem dX4_rule_20 : decode cX4_rule 20 = .ok (.ifCond .ne 6, 3) := by decide +kernel
theorem dX4_rule_23 : decode cX4_rule 23 = .ok (.bipush (-2), 2) := by decide +kernel
theorem dX4_rule_25 : decode cX4_rule 25 = .ok (.ireturn, 1) := by decide +kernel
theorem dX4_rule_26 : decode cX4_rule 26 = .ok (.iload_n 1, 1) := by decide +kernel
theorem dX4_rule_27 : decode cX4_rule 27 = .ok (.iload_n 3, 1) := by decide +kernel
theorem dX4_rule_28 : decode cX4_rule 28 = .ok (.iload 4, 2) := by decide +kernel
theorem dX4_rule_30 : decode cX4_rule 30 = .ok (.invokestatic 76, 3) := by decide +kernel
theorem dX4_rule_33 : decode cX4_rule 33 = .ok (.ifCond .ne 6, 3) := by decide +kernel
theorem dX4_rule_36 : decode cX4_rule 36 = .ok (.bipush (-3), 2) := by decide +kernel
theorem dX4_rule_38 : decode cX4_rule 38 = .ok (.ireturn, 1) := by decide +kernel
theorem dX4_rule_39 : decode cX4_rule 39 = .ok (.aload_n 0, 1) := by decide +kernel
theorem dX4_rule_40 : decode cX4_rule 40 = .ok (.getfield 79, 3) := by decide +kernel
theorem dX4_rule_43 : decode cX4_rule 43 = .ok (.bipush 40, 2) := by decide +kernel
theorem dX4_rule_45 : decode cX4_rule 45 = .ok (.if_icmp .lt 6, 3) := by decide +kernel
theorem dX4_rule_48 : decode cX4_rule 48 = .ok (.bipush (-4), 2) := by decide +kernel
theorem dX4_rule_50 : decode cX4_rule 50 = .ok (.ireturn, 1) := by decide +kernel
theorem dX4_rule_51 : decode cX4_rule 51 = .ok (.aload_n 0, 1) := by decide +kernel
theorem dX4_rule_52 : decode cX4_rule 52 = .ok (.getfield 23, 3) := by decide +kernel
theorem dX4_rule_55 : decode cX4_rule 55 = .ok (.aload_n 0, 1) := by decide +kernel
theorem dX4_rule_56 : decode cX4_rule 56 = .ok (.getfield 79, 3) := by decide +kernel
theorem dX4_rule_59 : decode cX4_rule 59 = .ok (.new 21, 3) := by decide +kernel
theorem dX4_rule_62 : decode cX4_rule 62 = .ok (.dup, 1) := by decide +kernel
theorem dX4_rule_63 : decode cX4_rule 63 = .ok (.iload_n 1, 1) := by decide +kernel
theorem dX4_rule_64 : decode cX4_rule 64 = .ok (.iload_n 2, 1) := by decide +kernel
theorem dX4_rule_65 : decode cX4_rule 65 = .ok (.iload_n 3, 1) := by decide +kernel
theorem dX4_rule_66 : decode cX4_rule 66 = .ok (.iload 4, 2) := by decide +kernel
theorem dX4_rule_68 : decode cX4_rule 68 = .ok (.aload_n 0, 1) := by decide +kernel
theorem dX4_rule_69 : decode cX4_rule 69 = .ok (.iload_n 2, 1) := by decide +kernel
theorem dX4_rule_70 : decode cX4_rule 70 = .ok (.invokevirtual 61, 3) := by decide +kernel
theorem dX4_rule_73 : decode cX4_rule 73 = .ok (.invokespecial 82, 3) := by decide +kernel
theorem dX4_rule_76 : decode cX4_rule 76 = .ok (.aastore, 1) := by decide +kernel
theorem dX4_rule_77 : decode cX4_rule 77 = .ok (.aload_n 0, 1) := by decide +kernel
theorem dX4_rule_78 : decode cX4_rule 78 = .ok (.dup, 1) := by decide +kernel
theorem dX4_rule_79 : decode cX4_rule 79 = .ok (.getfield 79, 3) := by decide +kernel
theorem dX4_rule_82 : decode cX4_rule 82 = .ok (.dup_x1, 1) := by decide +kernel
theorem dX4_rule_83 : decode cX4_rule 83 = .ok (.iconst 1, 1) := by decide +kernel
theorem dX4_rule_84 : decode cX4_rule 84 = .ok (.iadd, 1) := by decide +kernel
theorem dX4_rule_85 : decode cX4_rule 85 = .ok (.putfield 79, 3) := by decide +kernel
theorem dX4_rule_88 : decode cX4_rule 88 = .ok (.ireturn, 1) := by decide +kernel
set_option maxRecDepth 20000 in
theorem ggX4_ask_X4_ruleAt : GoodIn wsX4_ask wsX4_ruleAt := goodIn_r _ [9, 10, 11, 70, 71, 72, 73, 74, 75, 76, 77, 78, 79, 80, 81, 82, 83, 84, 85] (by decide +kernel) (by decide +kernel)
set_option maxRecDepth 20000 in
theorem gX4_ask_X4_ruleAt : GoodIn wsX4_ask (wsV RX4 85 RX4 yX4_ruleAt wsX4_ruleAt) := goodIn_app (goodIn_of _ (by decide +kernel)) ggX4_ask_X4_ruleAt
set_option maxRecDepth 20000 in
theorem ggX4_ask_X4_startWork : GoodIn wsX4_ask wsX4_startWork := goodIn_r _ [15, 2, 4, 70, 71, 72, 73, 74, 75, 76, 77, 78, 79, 80, 81, 82, 83, 84, 85] (by decide +kernel) (by decide +kernel)
set_option maxRecDepth 20000 in
theorem gX4_ask_X4_startWork : GoodIn wsX4_ask (wsV RX4 92 RX4 yX4_startWork wsX4_startWork) := goodIn_app (goodIn_of _ (by decide +kernel)) ggX4_ask_X4_startWork
set_option maxRecDepth 20000 in
theorem ggX4_ask_X4_says : GoodIn wsX4_ask wsX4_says := goodIn_r _ [19, 4, 20, 21, 22, 23, 24, 25, 26, 27, 28, 29, 30, 31, 8, 32, 2, 1, 5, 6, 7, 9, 10, 11, 33, 34, 35, 36, 37, 38, 39, 40, 41, 42, 43, 44, 45, 46, 47, 48, 16, 17, 18, 49, 50, 51, 52, 53, 54, 55, 56, 57, 58, 59, 60, 61, 62, 63, 64, 65, 66, 67, 68, 69, 70, 71, 72, 73, 74, 75, 76, 77, 78, 79, 80, 81, 82, 83, 84, 85, 86, 87, 88, 89, 90, 91] (by decide +kernel) (by decide +kernel)
set_option maxRecDepth 20000 in
theorem gX4_ask_X4_says : GoodIn wsX4_ask (wsV RX4 95 RX4 yX4_says wsX4_says) := goodIn_app (goodIn_of _ (by decide +kernel)) ggX4_ask_X4_says
theorem dX4_ask_0 : decode cX4_ask 0 = .ok (.aload_n 0, 1) := by decide +kernel
theorem dX4_ask_1 : decode cX4_ask 1 = .ok (.iload_n 1, 1) := by decide +kernel
theorem dX4_ask_2 : decode cX4_ask 2 = .ok (.invokevirtual 85, 3) := by decide +kernel
theorem dX4_ask_5 : decode cX4_ask 5 = .ok (.ifnonnull 6, 3) := by decide +kernel
theorem dX4_ask_8 : decode cX4_ask 8 = .ok (.bipush (-2), 2) := by decide +kernel
theorem dX4_ask_10 : decode cX4_ask 10 = .ok (.ireturn, 1) := by decide +kernel
theorem dX4_ask_11 : decode cX4_ask 11 = .ok (.aload_n 0, 1) := by decide +kernel
theorem dX4_ask_12 : decode cX4_ask 12 = .ok (.getfield 89, 3) := by decide +kernel
theorem dX4_ask_15 : decode cX4_ask 15 = .ok (.sipush 20000, 3) := by decide +kernel
theorem dX4_ask_18 : decode cX4_ask 18 = .ok (.if_icmp .lt 6, 3) := by decide +kernel
theorem dX4_ask_21 : decode cX4_ask 21 = .ok (.bipush (-4), 2) := by decide +kernel
theorem dX4_ask_23 : decode cX4_ask 23 = .ok (.ireturn, 1) := by decide +kernel
theorem dX4_ask_24 : decode cX4_ask 24 = .ok (.aload_n 0, 1) := by decide +kernel
theorem dX4_ask_25 : decode cX4_ask 25 = .ok (.invokevirtual 92, 3) := by decide +kernel
theorem dX4_ask_28 : decode cX4_ask 28 = .ok (.aload_n 0, 1) := by decide +kernel
theorem dX4_ask_29 : decode cX4_ask 29 = .ok (.iload_n 1, 1) := by decide +kernel
theorem dX4_ask_30 : decode cX4_ask 30 = .ok (.iconst 0, 1) := by decide +kernel
theorem dX4_ask_31 : decode cX4_ask 31 = .ok (.invokevirtual 95, 3) := by decide +kernel
theorem dX4_ask_34 : decode cX4_ask 34 = .ok (.istore_n 2, 1) := by decide +kernel
theorem dX4_ask_35 : decode cX4_ask 35 = .ok (.aload_n 0, 1) := by decide +kernel
theorem dX4_ask_36 : decode cX4_ask 36 = .ok (.aload_n 0, 1) := by decide +kernel
theorem dX4_ask_37 : decode cX4_ask 37 = .ok (.getfield 99, 3) := by decide +kernel
theorem dX4_ask_40 : decode cX4_ask 40 = .ok (.putfield 102, 3) := by decide +kernel
theorem dX4_ask_43 : decode cX4_ask 43 = .ok (.aload_n 0, 1) := by decide +kernel
theorem dX4_ask_44 : decode cX4_ask 44 = .ok (.getfield 105, 3) := by decide +kernel
theorem dX4_ask_47 : decode cX4_ask 47 = .ok (.ifCond .eq 11, 3) := by decide +kernel
theorem dX4_ask_50 : decode cX4_ask 50 = .ok (.bipush (-10), 2) := by decide +kernel
theorem dX4_ask_52 : decode cX4_ask 52 = .ok (.aload_n 0, 1) := by decide +kernel
theorem dX4_ask_53 : decode cX4_ask 53 = .ok (.getfield 105, 3) := by decide +kernel
theorem dX4_ask_56 : decode cX4_ask 56 = .ok (.isub, 1) := by decide +kernel
theorem dX4_ask_57 : decode cX4_ask 57 = .ok (.ireturn, 1) := by decide +kernel
theorem dX4_ask_58 : decode cX4_ask 58 = .ok (.iload_n 2, 1) := by decide +kernel
theorem dX4_ask_59 : decode cX4_ask 59 = .ok (.ifCond .eq 7, 3) := by decide +kernel
theorem dX4_ask_62 : decode cX4_ask 62 = .ok (.iconst 1, 1) := by decide +kernel
theorem dX4_ask_63 : decode cX4_ask 63 = .ok (.goto 4, 3) := by decide +kernel
theorem dX4_ask_66 : decode cX4_ask 66 = .ok (.iconst 0, 1) := by decide +kernel
theorem dX4_ask_67 : decode cX4_ask 67 = .ok (.ireturn, 1) := by decide +kernel
set_option maxRecDepth 20000 in
theorem ggX4_act_X4_isWithin : GoodIn wsX4_act wsX4_isWithin := goodIn_r _ [9] (by decide +kernel) (by decide +kernel)
set_option maxRecDepth 20000 in
theorem gX4_act_X4_isWithin : GoodIn wsX4_act (va_wsS RX4 69 yX4_isWithin wsX4_isWithin) := goodIn_app (goodIn_of _ (by decide +kernel)) ggX4_act_X4_isWithin
set_option maxRecDepth 20000 in
theorem ggX4_act_X4_knowsPartsOfAct : GoodIn wsX4_act wsX4_knowsPartsOfAct := goodIn_r _ [13, 14, 15, 8, 16, 17, 18, 19, 20, 21, 22, 23, 24, 25, 26, 27, 28, 29, 30, 31, 32, 33, 34, 35, 36, 37, 38, 1, 2, 39, 40, 41, 55, 56, 57, 58, 59, 60, 61, 62, 63, 64, 65, 66, 67, 68, 69, 70] (by decide +kernel) (by decide +kernel)
set_option maxRecDepth 20000 in
theorem gX4_act_X4_knowsPartsOfAct : GoodIn wsX4_act (wsV RX4 108 RX4 yX4_knowsPartsOfAct wsX4_knowsPartsOfAct) := goodIn_app (goodIn_of _ (by decide +kernel)) ggX4_act_X4_knowsPartsOfAct
set_option maxRecDepth 20000 in
theorem ggX4_act_X4_hasNumbersOfAct : GoodIn wsX4_act wsX4_hasNumbersOfAct := goodIn_r _ [44, 6, 7, 8, 9] (by decide +kernel) (by decide +kernel)
set_option maxRecDepth 20000 in
theorem gX4_act_X4_hasNumbersOfAct : GoodIn wsX4_act (va_wsS RX4 112 yX4_hasNumbersOfAct wsX4_hasNumbersOfAct) := goodIn_app (goodIn_of _ (by decide +kernel)) ggX4_act_X4_hasNumbersOfAct
set_option maxRecDepth 20000 in
theorem ggX4_act_X0_init : GoodIn wsX4_act wsX0_init := goodIn_r _ [47, 48, 49, 50, 51, 52, 53, 54, 71, 72, 73, 74] (by decide +kernel) (by decide +kernel)
set_option maxRecDepth 20000 in
theorem gX4_act_X0_init : GoodIn wsX4_act (wsX0_init) := ggX4_act_X0_init
theorem dX4_act_0 : decode cX4_act 0 = .ok (.iload_n 1, 1) := by decide +kernel
theorem dX4_act_1 : decode cX4_act 1 = .ok (.iconst 0, 1) := by decide +kernel
theorem dX4_act_2 : decode cX4_act 2 = .ok (.bipush 8, 2) := by decide +kernel
theorem dX4_act_4 : decode cX4_act 4 = .ok (.invokestatic 69, 3) := by decide +kernel
theorem dX4_act_7 : decode cX4_act 7 = .ok (.ifCond .ne 6, 3) := by decide +kernel
theorem dX4_act_10 : decode cX4_act 10 = .ok (.bipush (-3), 2) := by decide +kernel
theorem dX4_act_12 : decode cX4_act 12 = .ok (.ireturn, 1) := by decide +kernel
theorem dX4_act_13 : decode cX4_act 13 = .ok (.aload_n 0, 1) := by decide +kernel
theorem dX4_act_14 : decode cX4_act 14 = .ok (.iload_n 1, 1) := by decide +kernel
theorem dX4_act_15 : decode cX4_act 15 = .ok (.iload_n 2, 1) := by decide +kernel
theorem dX4_act_16 : decode cX4_act 16 = .ok (.iload_n 3, 1) := by decide +kernel
theorem dX4_act_17 : decode cX4_act 17 = .ok (.iload 4, 2) := by decide +kernel
theorem dX4_act_19 : decode cX4_act 19 = .ok (.invokevirtual 108, 3) := by decide +kernel
theorem dX4_act_22 : decode cX4_act 22 = .ok (.ifCond .ne 6, 3) := by decide +kernel
theorem dX4_act_25 : decode cX4_act 25 = .ok (.bipush (-2), 2) := by decide +kernel
theorem dX4_act_27 : decode cX4_act 27 = .ok (.ireturn, 1) := by decide +kernel
theorem dX4_act_28 : decode cX4_act 28 = .ok (.iload_n 1, 1) := by decide +kernel
theorem dX4_act_29 : decode cX4_act 29 = .ok (.iload_n 3, 1) := by decide +kernel
theorem dX4_act_30 : decode cX4_act 30 = .ok (.iload 4, 2) := by decide +kernel
theorem dX4_act_32 : decode cX4_act 32 = .ok (.invokestatic 112, 3) := by decide +kernel
theorem dX4_act_35 : decode cX4_act 35 = .ok (.ifCond .ne 6, 3) := by decide +kernel
theorem dX4_act_38 : decode cX4_act 38 = .ok (.bipush (-3), 2) := by decide +kernel
theorem dX4_act_40 : decode cX4_act 40 = .ok (.ireturn, 1) := by decide +kernel
theorem dX4_act_41 : decode cX4_act 41 = .ok (.aload_n 0, 1) := by decide +kernel
theorem dX4_act_42 : decode cX4_act 42 = .ok (.getfield 115, 3) := by decide +kernel
theorem dX4_act_45 : decode cX4_act 45 = .ok (.bipush 40, 2) := by decide +kernel
theorem dX4_act_47 : decode cX4_act 47 = .ok (.if_icmp .lt 6, 3) := by decide +kernel
theorem dX4_act_50 : decode cX4_act 50 = .ok (.bipush (-4), 2) := by decide +kernel
theorem dX4_act_52 : decode cX4_act 52 = .ok (.ireturn, 1) := by decide +kernel
theorem dX4_act_53 : decode cX4_act 53 = .ok (.iload_n 1, 1) := by decide +kernel
theorem dX4_act_54 : decode cX4_act 54 = .ok (.bipush 7, 2) := by decide +kernel
theorem dX4_act_56 : decode cX4_act 56 = .ok (.if_icmp .ne 12, 3) := by decide +kernel
theorem dX4_act_59 : decode cX4_act 59 = .ok (.aload_n 0, 1) := by decide +kernel
theorem dX4_act_60 : decode cX4_act 60 = .ok (.getfield 115, 3) := by decide +kernel
theorem dX4_act_63 : decode cX4_act 63 = .ok (.iconst 1, 1) := by decide +kernel
theorem dX4_act_64 : decode cX4_act 64 = .ok (.isub, 1) := by decide +kernel
theorem dX4_act_65 : decode cX4_act 65 = .ok (.goto 4, 3) := by decide +kernel
theorem dX4_act_68 : decode cX4_act 68 = .ok (.iload_n 2, 1) := by decide +kernel
theorem dX4_act_69 : decode cX4_act 69 = .ok (.istore 5, 2) := by decide +kernel
theorem dX4_act_71 : decode cX4_act 71 = .ok (.aload_n 0, 1) := by decide +kernel
theorem dX4_act_72 : decode cX4_act 72 = .ok (.getfield 29, 3) := by decide +kernel
theorem dX4_act_75 : decode cX4_act 75 = .ok (.aload_n 0, 1) := by decide +kernel
theorem dX4_act_76 : decode cX4_act 76 = .ok (.getfield 115, 3) := by decide +kernel
theorem dX4_act_79 : decode cX4_act 79 = .ok (.new 27, 3) := by decide +kernel
theorem dX4_act_82 : decode cX4_act 82 = .ok (.dup, 1) := by decide +kernel
theorem dX4_act_83 : decode cX4_act 83 = .ok (.iload_n 1, 1) := by decide +kernel
theorem dX4_act_84 : decode cX4_act 84 = .ok (.iload 5, 2) := by decide +kernel
theorem dX4_act_86 : decode cX4_act 86 = .ok (.iload_n 3, 1) := by decide +kernel
theorem dX4_act_87 : decode cX4_act 87 = .ok (.iload 4, 2) := by decide +kernel
theorem dX4_act_89 : decode cX4_act 89 = .ok (.invokespecial 118, 3) := by decide +kernel
theorem dX4_act_92 : decode cX4_act 92 = .ok (.aastore, 1) := by decide +kernel
theorem dX4_act_93 : decode cX4_act 93 = .ok (.aload_n 0, 1) := by decide +kernel
theorem dX4_act_94 : decode cX4_act 94 = .ok (.dup, 1) := by decide +kernel
theorem dX4_act_95 : decode cX4_act 95 = .ok (.getfield 115, 3) := by decide +kernel
theorem dX4_act_98 : decode cX4_act 98 = .ok (.dup_x1, 1) := by decide +kernel
theorem dX4_act_99 : decode cX4_act 99 = .ok (.iconst 1, 1) := by decide +kernel
theorem dX4_act_100 : decode cX4_act 100 = .ok (.iadd, 1) := by decide +kernel
theorem dX4_act_101 : decode cX4_act 101 = .ok (.putfield 115, 3) := by decide +kernel
theorem dX4_act_104 : decode cX4_act 104 = .ok (.ireturn, 1) := by decide +kernel
set_option maxRecDepth 20000 in
theorem ggX4_run_X4_actAt : GoodIn wsX4_run wsX4_actAt := goodIn_r _ [10, 11, 12, 143, 144, 145, 146, 147, 148, 149, 150, 151, 152, 153, 154, 155, 156, 157, 158] (by decide +kernel) (by decide +kernel)
set_option maxRecDepth 20000 in
theorem gX4_run_X4_actAt : GoodIn wsX4_run (wsV RX4 121 RX4 yX4_actAt wsX4_actAt) := goodIn_app (goodIn_of _ (by decide +kernel)) ggX4_run_X4_actAt
set_option maxRecDepth 20000 in
theorem ggX4_run_X4_startWork : GoodIn wsX4_run wsX4_startWork := goodIn_r _ [16, 2, 4, 143, 144, 145, 146, 147, 148, 149, 150, 151, 152, 153, 154, 155, 156, 157, 158] (by decide +kernel) (by decide +kernel)
set_option maxRecDepth 20000 in
theorem gX4_run_X4_startWork : GoodIn wsX4_run (wsV RX4 92 RX4 yX4_startWork wsX4_startWork) := goodIn_app (goodIn_of _ (by decide +kernel)) ggX4_run_X4_startWork
set_option maxRecDepth 20000 in
theorem ggX4_run_X4_does : GoodIn wsX4_run wsX4_does := goodIn_r _ [20, 4, 21, 22, 23, 24, 25, 9, 26, 2, 1, 6, 7, 8, 10, 11, 12, 27, 28, 29, 30, 31, 32, 33, 34, 35, 36, 37, 38, 39, 40, 41, 42, 43, 44, 45, 46, 47, 48, 49, 50, 51, 52, 53, 54, 55, 56, 57, 58, 59, 60, 61, 62, 63, 64, 65, 66, 67, 68, 69, 70, 17, 18, 19, 71, 72, 73, 74, 75, 76, 77, 78, 79, 80, 81, 82, 83, 84, 85, 86, 87, 88, 89, 90, 91, 92, 93, 94, 95, 96, 97, 98, 99, 100, 101, 102, 103, 104, 105, 106, 107, 108, 109, 110, 111, 112, 113, 114, 115, 116, 117, 118, 119, 120, 121, 122, 123, 124, 125, 126, 127, 128, 129, 130, 131, 132, 133, 134, 135, 136, 137, 138, 139, 140, 141, 142, 143, 144, 145, 146, 147, 148, 149, 150, 151, 152, 153, 154, 155, 156, 157, 158, 159, 160, 161, 162, 163, 164, 165, 166, 167, 168, 169, 170, 171] (by decide +kernel) (by decide +kernel)
set_option maxRecDepth 20000 in
theorem gX4_run_X4_does : GoodIn wsX4_run (wsV RX4 125 RX4 yX4_does wsX4_does) := goodIn_app (goodIn_of _ (by decide +kernel)) ggX4_run_X4_does
end
section
theorem dX4_run_0 : decode cX4_run 0 = .ok (.aload_n 0, 1) := by decide +kernel
theorem dX4_run_1 : decode cX4_run 1 = .ok (.iload_n 1, 1) := by decide +kernel
theorem dX4_run_2 : decode cX4_run 2 = .ok (.invokevirtual 121, 3) := by decide +kernel
theorem dX4_run_5 : decode cX4_run 5 = .ok (.ifnonnull 6, 3) := by decide +kernel
theorem dX4_run_8 : decode cX4_run 8 = .ok (.bipush (-2), 2) := by decide +kernel
theorem dX4_run_10 : decode cX4_run 10 = .ok (.ireturn, 1) := by decide +kernel
theorem dX4_run_11 : decode cX4_run 11 = .ok (.aload_n 0, 1) := by decide +kernel
theorem dX4_run_12 : decode cX4_run 12 = .ok (.getfield 89, 3) := by decide +kernel
theorem dX4_run_15 : decode cX4_run 15 = .ok (.sipush 20000, 3) := by decide +kernel
theorem dX4_run_18 : decode cX4_run 18 = .ok (.if_icmp .lt 6, 3) := by decide +kernel
theorem dX4_run_21 : decode cX4_run 21 = .ok (.bipush (-4), 2) := by decide +kernel
theorem dX4_run_23 : decode cX4_run 23 = .ok (.ireturn, 1) := by decide +kernel
theorem dX4_run_24 : decode cX4_run 24 = .ok (.aload_n 0, 1) := by decide +kernel
theorem dX4_run_25 : decode cX4_run 25 = .ok (.invokevirtual 92, 3) := by decide +kernel
theorem dX4_run_28 : decode cX4_run 28 = .ok (.aload_n 0, 1) := by decide +kernel
theorem dX4_run_29 : decode cX4_run 29 = .ok (.iload_n 1, 1) := by decide +kernel
theorem dX4_run_30 : decode cX4_run 30 = .ok (.iconst 0, 1) := by decide +kernel
theorem dX4_run_31 : decode cX4_run 31 = .ok (.invokevirtual 125, 3) := by decide +kernel
theorem dX4_run_34 : decode cX4_run 34 = .ok (.istore_n 2, 1) := by decide +kernel
theorem dX4_run_35 : decode cX4_run 35 = .ok (.aload_n 0, 1) := by decide +kernel
theorem dX4_run_36 : decode cX4_run 36 = .ok (.aload_n 0, 1) := by decide +kernel
theorem dX4_run_37 : decode cX4_run 37 = .ok (.getfield 99, 3) := by decide +kernel
theorem dX4_run_40 : decode cX4_run 40 = .ok (.putfield 102, 3) := by decide +kernel
theorem dX4_run_43 : decode cX4_run 43 = .ok (.aload_n 0, 1) := by decide +kernel
theorem dX4_run_44 : decode cX4_run 44 = .ok (.aload_n 0, 1) := by decide +kernel
theorem dX4_run_45 : decode cX4_run 45 = .ok (.getfield 105, 3) := by decide +kernel
theorem dX4_run_48 : decode cX4_run 48 = .ok (.ifCond .ne 7, 3) := by decide +kernel
theorem dX4_run_51 : decode cX4_run 51 = .ok (.iload_n 2, 1) := by decide +kernel
theorem dX4_run_52 : decode cX4_run 52 = .ok (.goto 4, 3) := by decide +kernel
theorem dX4_run_55 : decode cX4_run 55 = .ok (.iconst 0, 1) := by decide +kernel
theorem dX4_run_56 : decode cX4_run 56 = .ok (.putfield 129, 3) := by decide +kernel
theorem dX4_run_59 : decode cX4_run 59 = .ok (.aload_n 0, 1) := by decide +kernel
theorem dX4_run_60 : decode cX4_run 60 = .ok (.getfield 105, 3) := by decide +kernel
theorem dX4_run_63 : decode cX4_run 63 = .ok (.ifCond .ne 7, 3) := by decide +kernel
theorem dX4_run_66 : decode cX4_run 66 = .ok (.iconst 1, 1) := by decide +kernel
theorem dX4_run_67 : decode cX4_run 67 = .ok (.goto 10, 3) := by decide +kernel
theorem dX4_run_70 : decode cX4_run 70 = .ok (.bipush (-10), 2) := by decide +kernel
theorem dX4_run_72 : decode cX4_run 72 = .ok (.aload_n 0, 1) := by decide +kernel
theorem dX4_run_73 : decode cX4_run 73 = .ok (.getfield 105, 3) := by decide +kernel
theorem dX4_run_76 : decode cX4_run 76 = .ok (.isub, 1) := by decide +kernel
theorem dX4_run_77 : decode cX4_run 77 = .ok (.ireturn, 1) := by decide +kernel
theorem dX4_amount_0 : decode cX4_amount 0 = .ok (.aload_n 0, 1) := by decide +kernel
theorem dX4_amount_1 : decode cX4_amount 1 = .ok (.getfield 129, 3) := by decide +kernel
theorem dX4_amount_4 : decode cX4_amount 4 = .ok (.ireturn, 1) := by decide +kernel
set_option maxRecDepth 20000 in
theorem ggX4_tick_X4_isWithin : GoodIn wsX4_tick wsX4_isWithin := goodIn_r _ [5] (by decide +kernel) (by decide +kernel)
set_option maxRecDepth 20000 in
theorem gX4_tick_X4_isWithin : GoodIn wsX4_tick (va_wsS RX4 69 yX4_isWithin wsX4_isWithin) := goodIn_app (goodIn_of _ (by decide +kernel)) ggX4_tick_X4_isWithin
set_option maxRecDepth 20000 in
theorem ggX4_tick_X4_doThoseDue : GoodIn wsX4_tick wsX4_doThoseDue := goodIn_r _ [9, 10, 11, 1, 12, 13, 14, 15, 16, 17, 18, 19, 20, 21, 22, 23, 24, 25, 26, 4, 27, 28, 29, 30, 31, 32, 33, 34, 35, 36, 37, 38, 39, 40, 41, 42, 43, 44, 45, 46, 47, 48, 49, 50, 51, 52, 53, 54, 55, 56, 57, 58, 59, 60, 61, 62, 63, 64, 65, 66, 67, 68, 69, 70, 71, 72, 73, 74, 75, 76, 77, 78, 79, 80, 81, 82, 83, 84, 85, 86, 87, 88, 89, 90, 91, 92, 93, 94, 95, 96, 97, 98, 99, 100, 101, 102, 103, 104, 2, 3, 5, 105, 106, 107, 108, 109, 110, 111, 112, 113, 114, 115, 116, 117, 118, 119, 120, 121, 122, 123, 124, 125, 126, 127, 128, 129, 130, 131, 132, 133, 134, 135, 136, 137, 138, 139, 140, 141, 142, 143, 144, 145, 146, 147, 148, 149, 150, 151, 152, 153, 154, 155, 156, 157, 158, 159, 160, 161, 162, 163, 164, 165, 166, 167, 168, 169, 170, 171, 172, 173, 174, 175, 176, 177, 178, 179, 180, 181, 182, 183, 184, 185, 186, 187, 188, 189, 190, 191, 192, 193, 194, 195, 196, 197, 198, 199] (by decide +kernel) (by decide +kernel)
set_option maxRecDepth 20000 in
theorem gX4_tick_X4_doThoseDue : GoodIn wsX4_tick (wsV RX4 135 RX4 yX4_doThoseDue wsX4_doThoseDue) := goodIn_app (goodIn_of _ (by decide +kernel)) ggX4_tick_X4_doThoseDue
theorem dX4_tick_0 : decode cX4_tick 0 = .ok (.iload_n 1, 1) := by decide +kernel
theorem dX4_tick_1 : decode cX4_tick 1 = .ok (.iconst 1, 1) := by decide +kernel
theorem dX4_tick_2 : decode cX4_tick 2 = .ok (.bipush 50, 2) := by decide +kernel
theorem dX4_tick_4 : decode cX4_tick 4 = .ok (.invokestatic 69, 3) := by decide +kernel
theorem dX4_tick_7 : decode cX4_tick 7 = .ok (.ifCond .ne 6, 3) := by decide +kernel
theorem dX4_tick_10 : decode cX4_tick 10 = .ok (.bipush (-3), 2) := by decide +kernel
theorem dX4_tick_12 : decode cX4_tick 12 = .ok (.ireturn, 1) := by decide +kernel
theorem dX4_tick_13 : decode cX4_tick 13 = .ok (.iconst 0, 1) := by decide +kernel
theorem dX4_tick_14 : decode cX4_tick 14 = .ok (.istore_n 2, 1) := by decide +kernel
theorem dX4_tick_15 : decode cX4_tick 15 = .ok (.iconst 0, 1) := by decide +kernel
theorem dX4_tick_16 : decode cX4_tick 16 = .ok (.istore_n 3, 1) := by decide +kernel
theorem dX4_tick_17 : decode cX4_tick 17 = .ok (.iload_n 3, 1) := by decide +kernel
theorem dX4_tick_18 : decode cX4_tick 18 = .ok (.iload_n 1, 1) := by decide +kernel
theorem dX4_tick_19 : decode cX4_tick 19 = .ok (.if_icmp .ge 26, 3) := by decide +kernel
theorem dX4_tick_22 : decode cX4_tick 22 = .ok (.aload_n 0, 1) := by decide +kernel
theorem dX4_tick_23 : decode cX4_tick 23 = .ok (.dup, 1) := by decide +kernel
theorem dX4_tick_24 : decode cX4_tick 24 = .ok (.getfield 132, 3) := by decide +kernel
theorem dX4_tick_27 : decode cX4_tick 27 = .ok (.iconst 1, 1) := by decide +kernel
theorem dX4_tick_28 : decode cX4_tick 28 = .ok (.iadd, 1) := by decide +kernel
theorem dX4_tick_29 : decode cX4_tick 29 = .ok (.putfield 132, 3) := by decide +kernel
theorem dX4_tick_32 : decode cX4_tick 32 = .ok (.iload_n 2, 1) := by decide +kernel
theorem dX4_tick_33 : decode cX4_tick 33 = .ok (.aload_n 0, 1) := by decide +kernel
theorem dX4_tick_34 : decode cX4_tick 34 = .ok (.invokevirtual 135, 3) := by decide +kernel
theorem dX4_tick_37 : decode cX4_tick 37 = .ok (.iadd, 1) := by decide +kernel
theorem dX4_tick_38 : decode cX4_tick 38 = .ok (.istore_n 2, 1) := by decide +kernel
theorem dX4_tick_39 : decode cX4_tick 39 = .ok (.iinc 3 1, 3) := by decide +kernel
theorem dX4_tick_42 : decode cX4_tick 42 = .ok (.goto (-25), 3) := by decide +kernel
theorem dX4_tick_45 : decode cX4_tick 45 = .ok (.iload_n 2, 1) := by decide +kernel
theorem dX4_tick_46 : decode cX4_tick 46 = .ok (.ireturn, 1) := by decide +kernel
set_option maxRecDepth 20000 in
theorem ggX4_failed_X1_actAt : GoodIn wsX4_failed wsX1_actAt := goodIn_r _ [6, 7, 8, 9, 10, 5, 11, 12, 39, 40, 41, 42] (by decide +kernel) (by decide +kernel)
set_option maxRecDepth 20000 in
theorem gX4_failed_X1_actAt : GoodIn wsX4_failed (wsV RX4 139 RX1 yX1_actAt wsX1_actAt) := goodIn_app (goodIn_of _ (by decide +kernel)) ggX4_failed_X1_actAt
set_option maxRecDepth 20000 in
theorem ggX4_failed_X1_failureAt : GoodIn wsX4_failed wsX1_failureAt := goodIn_r _ [16, 17, 8, 9, 10, 5, 11, 12, 39, 40, 41, 42] (by decide +kernel) (by decide +kernel)
set_option maxRecDepth 20000 in
theorem gX4_failed_X1_failureAt : GoodIn wsX4_failed (wsV RX4 141 RX1 yX1_failureAt wsX1_failureAt) := goodIn_app (goodIn_of _ (by decide +kernel)) ggX4_failed_X1_failureAt
set_option maxRecDepth 20000 in
theorem ggX4_failed_X1_timeAt : GoodIn wsX4_failed wsX1_timeAt := goodIn_r _ [21, 22, 8, 9, 10, 5, 11, 12, 39, 40, 41, 42] (by decide +kernel) (by decide +kernel)
set_option maxRecDepth 20000 in
theorem gX4_failed_X1_timeAt : GoodIn wsX4_failed (wsV RX4 144 RX1 yX1_timeAt wsX1_timeAt) := goodIn_app (goodIn_of _ (by decide +kernel)) ggX4_failed_X1_timeAt
theorem dX4_failed_0 : decode cX4_failed 0 = .ok (.iload_n 2, 1) := by decide +kernel
theorem dX4_failed_1 : decode cX4_failed 1 = .ok (.tableswitch 54 0 2 #[27, 36, 45], 27) := by decide +kernel
theorem dX4_failed_28 : decode cX4_failed 28 = .ok (.aload_n 0, 1) := by decide +kernel
theorem dX4_failed_29 : decode cX4_failed 29 = .ok (.getfield 43, 3) := by decide +kernel
theorem dX4_failed_32 : decode cX4_failed 32 = .ok (.iload_n 1, 1) := by decide +kernel
theorem dX4_failed_33 : decode cX4_failed 33 = .ok (.invokevirtual 139, 3) := by decide +kernel
theorem dX4_failed_36 : decode cX4_failed 36 = .ok (.ireturn, 1) := by decide +kernel
theorem dX4_failed_37 : decode cX4_failed 37 = .ok (.aload_n 0, 1) := by decide +kernel
theorem dX4_failed_38 : decode cX4_failed 38 = .ok (.getfield 43, 3) := by decide +kernel
theorem dX4_failed_41 : decode cX4_failed 41 = .ok (.iload_n 1, 1) := by decide +kernel
theorem dX4_failed_42 : decode cX4_failed 42 = .ok (.invokevirtual 141, 3) := by decide +kernel
theorem dX4_failed_45 : decode cX4_failed 45 = .ok (.ireturn, 1) := by decide +kernel
theorem dX4_failed_46 : decode cX4_failed 46 = .ok (.aload_n 0, 1) := by decide +kernel
theorem dX4_failed_47 : decode cX4_failed 47 = .ok (.getfield 43, 3) := by decide +kernel
theorem dX4_failed_50 : decode cX4_failed 50 = .ok (.iload_n 1, 1) := by decide +kernel
theorem dX4_failed_51 : decode cX4_failed 51 = .ok (.invokevirtual 144, 3) := by decide +kernel
theorem dX4_failed_54 : decode cX4_failed 54 = .ok (.ireturn, 1) := by decide +kernel
theorem dX4_failed_55 : decode cX4_failed 55 = .ok (.bipush (-3), 2) := by decide +kernel
theorem dX4_failed_57 : decode cX4_failed 57 = .ok (.ireturn, 1) := by decide +kernel
theorem dX4_count_0 : decode cX4_count 0 = .ok (.iload_n 1, 1) := by decide +kernel
theorem dX4_count_1 : decode cX4_count 1 = .ok (.tableswitch 84 0 6 #[43, 48, 53, 61, 66, 74, 79], 43) := by decide +kernel
theorem dX4_count_44 : decode cX4_count 44 = .ok (.aload_n 0, 1) := by decide +kernel
theorem dX4_count_45 : decode cX4_count 45 = .ok (.getfield 79, 3) := by decide +kernel
theorem dX4_count_48 : decode cX4_count 48 = .ok (.ireturn, 1) := by decide +kernel
theorem dX4_count_49 : decode cX4_count 49 = .ok (.aload_n 0, 1) := by decide +kernel
theorem dX4_count_50 : decode cX4_count 50 = .ok (.getfield 115, 3) := by decide +kernel
theorem dX4_count_53 : decode cX4_count 53 = .ok (.ireturn, 1) := by decide +kernel
theorem dX4_count_54 : decode cX4_count 54 = .ok (.aload_n 0, 1) := by decide +kernel
theorem dX4_count_55 : decode cX4_count 55 = .ok (.getfield 36, 3) := by decide +kernel
theorem dX4_count_58 : decode cX4_count 58 = .ok (.getfield 147, 3) := by decide +kernel
theorem dX4_count_61 : decode cX4_count 61 = .ok (.ireturn, 1) := by decide +kernel
theorem dX4_count_62 : decode cX4_count 62 = .ok (.aload_n 0, 1) := by decide +kernel
theorem dX4_count_63 : decode cX4_count 63 = .ok (.getfield 132, 3) := by decide +kernel
theorem dX4_count_66 : decode cX4_count 66 = .ok (.ireturn, 1) := by decide +kernel
theorem dX4_count_67 : decode cX4_count 67 = .ok (.aload_n 0, 1) := by decide +kernel
theorem dX4_count_68 : decode cX4_count 68 = .ok (.getfield 43, 3) := by decide +kernel
theorem dX4_count_71 : decode cX4_count 71 = .ok (.getfield 150, 3) := by decide +kernel
theorem dX4_count_74 : decode cX4_count 74 = .ok (.ireturn, 1) := by decide +kernel
theorem dX4_count_75 : decode cX4_count 75 = .ok (.aload_n 0, 1) := by decide +kernel
theorem dX4_count_76 : decode cX4_count 76 = .ok (.getfield 102, 3) := by decide +kernel
theorem dX4_count_79 : decode cX4_count 79 = .ok (.ireturn, 1) := by decide +kernel
theorem dX4_count_80 : decode cX4_count 80 = .ok (.aload_n 0, 1) := by decide +kernel
theorem dX4_count_81 : decode cX4_count 81 = .ok (.getfield 89, 3) := by decide +kernel
theorem dX4_count_84 : decode cX4_count 84 = .ok (.ireturn, 1) := by decide +kernel
theorem dX4_count_85 : decode cX4_count 85 = .ok (.bipush (-3), 2) := by decide +kernel
theorem dX4_count_87 : decode cX4_count 87 = .ok (.ireturn, 1) := by decide +kernel
theorem dX4_why_0 : decode cX4_why 0 = .ok (.aload_n 0, 1) := by decide +kernel
theorem dX4_why_1 : decode cX4_why 1 = .ok (.getfield 57, 3) := by decide +kernel
theorem dX4_why_4 : decode cX4_why 4 = .ok (.ireturn, 1) := by decide +kernel
theorem dX4_isWithin_0 : decode cX4_isWithin 0 = .ok (.iload_n 0, 1) := by decide +kernel
theorem dX4_isWithin_1 : decode cX4_isWithin 1 = .ok (.iload_n 1, 1) := by decide +kernel
theorem dX4_isWithin_2 : decode cX4_isWithin 2 = .ok (.if_icmp .lt 12, 3) := by decide +kernel
theorem dX4_isWithin_5 : decode cX4_isWithin 5 = .ok (.iload_n 0, 1) := by decide +kernel
theorem dX4_isWithin_6 : decode cX4_isWithin 6 = .ok (.iload_n 2, 1) := by decide +kernel
theorem dX4_isWithin_7 : decode cX4_isWithin 7 = .ok (.if_icmp .gt 7, 3) := by decide +kernel
theorem dX4_isWithin_10 : decode cX4_isWithin 10 = .ok (.iconst 1, 1) := by decide +kernel
theorem dX4_isWithin_11 : decode cX4_isWithin 11 = .ok (.goto 4, 3) := by decide +kernel
theorem dX4_isWithin_14 : decode cX4_isWithin 14 = .ok (.iconst 0, 1) := by decide +kernel
theorem dX4_isWithin_15 : decode cX4_isWithin 15 = .ok (.ireturn, 1) := by decide +kernel
theorem dX4_isSensor_0 : decode cX4_isSensor 0 = .ok (.iload_n 0, 1) := by decide +kernel
theorem dX4_isSensor_1 : decode cX4_isSensor 1 = .ok (.ifCond .lt 13, 3) := by decide +kernel
theorem dX4_isSensor_4 : decode cX4_isSensor 4 = .ok (.iload_n 0, 1) := by decide +kernel
theorem dX4_isSensor_5 : decode cX4_isSensor 5 = .ok (.bipush 8, 2) := by decide +kernel
theorem dX4_isSensor_7 : decode cX4_isSensor 7 = .ok (.if_icmp .ge 7, 3) := by decide +kernel
theorem dX4_isSensor_10 : decode cX4_isSensor 10 = .ok (.iconst 1, 1) := by decide +kernel
theorem dX4_isSensor_11 : decode cX4_isSensor 11 = .ok (.goto 4, 3) := by decide +kernel
theorem dX4_isSensor_14 : decode cX4_isSensor 14 = .ok (.iconst 0, 1) := by decide +kernel
theorem dX4_isSensor_15 : decode cX4_isSensor 15 = .ok (.ireturn, 1) := by decide +kernel
theorem dX4_isTank_0 : decode cX4_isTank 0 = .ok (.iload_n 0, 1) := by decide +kernel
theorem dX4_isTank_1 : decode cX4_isTank 1 = .ok (.ifCond .lt 13, 3) := by decide +kernel
theorem dX4_isTank_4 : decode cX4_isTank 4 = .ok (.iload_n 0, 1) := by decide +kernel
theorem dX4_isTank_5 : decode cX4_isTank 5 = .ok (.bipush 6, 2) := by decide +kernel
theorem dX4_isTank_7 : decode cX4_isTank 7 = .ok (.if_icmp .ge 7, 3) := by decide +kernel
theorem dX4_isTank_10 : decode cX4_isTank 10 = .ok (.iconst 1, 1) := by decide +kernel
theorem dX4_isTank_11 : decode cX4_isTank 11 = .ok (.goto 4, 3) := by decide +kernel
theorem dX4_isTank_14 : decode cX4_isTank 14 = .ok (.iconst 0, 1) := by decide +kernel
theorem dX4_isTank_15 : decode cX4_isTank 15 = .ok (.ireturn, 1) := by decide +kernel
theorem dX4_reading_0 : decode cX4_reading 0 = .ok (.iload_n 1, 1) := by decide +kernel
theorem dX4_reading_1 : decode cX4_reading 1 = .ok (.ifCond .lt 18, 3) := by decide +kernel
theorem dX4_reading_4 : decode cX4_reading 4 = .ok (.iload_n 1, 1) := by decide +kernel
theorem dX4_reading_5 : decode cX4_reading 5 = .ok (.bipush 8, 2) := by decide +kernel
theorem dX4_reading_7 : decode cX4_reading 7 = .ok (.if_icmp .ge 12, 3) := by decide +kernel
theorem dX4_reading_10 : decode cX4_reading 10 = .ok (.aload_n 0, 1) := by decide +kernel
theorem dX4_reading_11 : decode cX4_reading 11 = .ok (.getfield 9, 3) := by decide +kernel
theorem dX4_reading_14 : decode cX4_reading 14 = .ok (.iload_n 1, 1) := by decide +kernel
theorem dX4_reading_15 : decode cX4_reading 15 = .ok (.iaload, 1) := by decide +kernel
theorem dX4_reading_16 : decode cX4_reading 16 = .ok (.goto 4, 3) := by decide +kernel
theorem dX4_reading_19 : decode cX4_reading 19 = .ok (.iconst 0, 1) := by decide +kernel
theorem dX4_reading_20 : decode cX4_reading 20 = .ok (.ireturn, 1) := by decide +kernel
theorem dX4_ruleAt_0 : decode cX4_ruleAt 0 = .ok (.iload_n 1, 1) := by decide +kernel
theorem dX4_ruleAt_1 : decode cX4_ruleAt 1 = .ok (.ifCond .lt 26, 3) := by decide +kernel
theorem dX4_ruleAt_4 : decode cX4_ruleAt 4 = .ok (.iload_n 1, 1) := by decide +kernel
theorem dX4_ruleAt_5 : decode cX4_ruleAt 5 = .ok (.aload_n 0, 1) := by decide +kernel
theorem dX4_ruleAt_6 : decode cX4_ruleAt 6 = .ok (.getfield 79, 3) := by decide +kernel
theorem dX4_ruleAt_9 : decode cX4_ruleAt 9 = .ok (.if_icmp .ge 18, 3) := by decide +kernel
theorem dX4_ruleAt_12 : decode cX4_ruleAt 12 = .ok (.iload_n 1, 1) := by decide +kernel
theorem dX4_ruleAt_13 : decode cX4_ruleAt 13 = .ok (.bipush 40, 2) := by decide +kernel
theorem dX4_ruleAt_15 : decode cX4_ruleAt 15 = .ok (.if_icmp .ge 12, 3) := by decide +kernel
theorem dX4_ruleAt_18 : decode cX4_ruleAt 18 = .ok (.aload_n 0, 1) := by decide +kernel
theorem dX4_ruleAt_19 : decode cX4_ruleAt 19 = .ok (.getfield 23, 3) := by decide +kernel
theorem dX4_ruleAt_22 : decode cX4_ruleAt 22 = .ok (.iload_n 1, 1) := by decide +kernel
theorem dX4_ruleAt_23 : decode cX4_ruleAt 23 = .ok (.aaload, 1) := by decide +kernel
theorem dX4_ruleAt_24 : decode cX4_ruleAt 24 = .ok (.goto 4, 3) := by decide +kernel
theorem dX4_ruleAt_27 : decode cX4_ruleAt 27 = .ok (.aconst_null, 1) := by decide +kernel
theorem dX4_ruleAt_28 : decode cX4_ruleAt 28 = .ok (.areturn, 1) := by decide +kernel
theorem dX4_actAt_0 : decode cX4_actAt 0 = .ok (.iload_n 1, 1) := by decide +kernel
theorem dX4_actAt_1 : decode cX4_actAt 1 = .ok (.ifCond .lt 26, 3) := by decide +kernel
theorem dX4_actAt_4 : decode cX4_actAt 4 = .ok (.iload_n 1, 1) := by decide +kernel
theorem dX4_actAt_5 : decode cX4_actAt 5 = .ok (.aload_n 0, 1) := by decide +kernel
theorem dX4_actAt_6 : decode cX4_actAt 6 = .ok (.getfield 115, 3) := by decide +kernel
theorem dX4_actAt_9 : decode cX4_actAt 9 = .ok (.if_icmp .ge 18, 3) := by decide +kernel
theorem dX4_actAt_12 : decode cX4_actAt 12 = .ok (.iload_n 1, 1) := by decide +kernel
theorem dX4_actAt_13 : decode cX4_actAt 13 = .ok (.bipush 40, 2) := by decide +kernel
theorem dX4_actAt_15 : decode cX4_actAt 15 = .ok (.if_icmp .ge 12, 3) := by decide +kernel
theorem dX4_actAt_18 : decode cX4_actAt 18 = .ok (.aload_n 0, 1) := by decide +kernel
theorem dX4_actAt_19 : decode cX4_actAt 19 = .ok (.getfield 29, 3) := by decide +kernel
theorem dX4_actAt_22 : decode cX4_actAt 22 = .ok (.iload_n 1, 1) := by decide +kernel
theorem dX4_actAt_23 : decode cX4_actAt 23 = .ok (.aaload, 1) := by decide +kernel
theorem dX4_actAt_24 : decode cX4_actAt 24 = .ok (.goto 4, 3) := by decide +kernel
theorem dX4_actAt_27 : decode cX4_actAt 27 = .ok (.aconst_null, 1) := by decide +kernel
theorem dX4_actAt_28 : decode cX4_actAt 28 = .ok (.areturn, 1) := by decide +kernel
set_option maxRecDepth 20000 in
theorem ggX4_isRule_X4_ruleAt : GoodIn wsX4_isRule wsX4_ruleAt := goodIn_r _ [5, 6, 7, 8, 9, 10, 11, 12, 13, 14, 15, 16, 17, 18, 19, 20, 21, 22, 23] (by decide +kernel) (by decide +kernel)
set_option maxRecDepth 20000 in
theorem gX4_isRule_X4_ruleAt : GoodIn wsX4_isRule (wsV RX4 85 RX4 yX4_ruleAt wsX4_ruleAt) := goodIn_app (goodIn_of _ (by decide +kernel)) ggX4_isRule_X4_ruleAt
theorem dX4_isRule_0 : decode cX4_isRule 0 = .ok (.aload_n 0, 1) := by decide +kernel
theorem dX4_isRule_1 : decode cX4_isRule 1 = .ok (.iload_n 1, 1) := by decide +kernel
theorem dX4_isRule_2 : decode cX4_isRule 2 = .ok (.invokevirtual 85, 3) := by decide +kernel
theorem dX4_isRule_5 : decode cX4_isRule 5 = .ok (.ifnull 7, 3) := by decide +kernel
theorem dX4_isRule_8 : decode cX4_isRule 8 = .ok (.iconst 1, 1) := by decide +kernel
theorem dX4_isRule_9 : decode cX4_isRule 9 = .ok (.goto 4, 3) := by decide +kernel
theorem dX4_isRule_12 : decode cX4_isRule 12 = .ok (.iconst 0, 1) := by decide +kernel
theorem dX4_isRule_13 : decode cX4_isRule 13 = .ok (.ireturn, 1) := by decide +kernel
set_option maxRecDepth 20000 in
theorem ggX4_isAct_X4_actAt : GoodIn wsX4_isAct wsX4_actAt := goodIn_r _ [5, 6, 7, 8, 9, 10, 11, 12, 13, 14, 15, 16, 17, 18, 19, 20, 21, 22, 23] (by decide +kernel) (by decide +kernel)
set_option maxRecDepth 20000 in
theorem gX4_isAct_X4_actAt : GoodIn wsX4_isAct (wsV RX4 121 RX4 yX4_actAt wsX4_actAt) := goodIn_app (goodIn_of _ (by decide +kernel)) ggX4_isAct_X4_actAt
theorem dX4_isAct_0 : decode cX4_isAct 0 = .ok (.aload_n 0, 1) := by decide +kernel
theorem dX4_isAct_1 : decode cX4_isAct 1 = .ok (.iload_n 1, 1) := by decide +kernel
theorem dX4_isAct_2 : decode cX4_isAct 2 = .ok (.invokevirtual 121, 3) := by decide +kernel
theorem dX4_isAct_5 : decode cX4_isAct 5 = .ok (.ifnull 7, 3) := by decide +kernel
theorem dX4_isAct_8 : decode cX4_isAct 8 = .ok (.iconst 1, 1) := by decide +kernel
theorem dX4_isAct_9 : decode cX4_isAct 9 = .ok (.goto 4, 3) := by decide +kernel
theorem dX4_isAct_12 : decode cX4_isAct 12 = .ok (.iconst 0, 1) := by decide +kernel
theorem dX4_isAct_13 : decode cX4_isAct 13 = .ok (.ireturn, 1) := by decide +kernel
set_option maxRecDepth 20000 in
theorem ggX4_knowsPartsOfRule_X4_isSensor : GoodIn wsX4_knowsPartsOfRule wsX4_isSensor := goodIn_r _ [4] (by decide +kernel) (by decide +kernel)
set_option maxRecDepth 20000 in
theorem gX4_knowsPartsOfRule_X4_isSensor : GoodIn wsX4_knowsPartsOfRule (va_wsS RX4 53 yX4_isSensor wsX4_isSensor) := goodIn_app (goodIn_of _ (by decide +kernel)) ggX4_knowsPartsOfRule_X4_isSensor
set_option maxRecDepth 20000 in
theorem ggX4_knowsPartsOfRule_X4_isRule : GoodIn wsX4_knowsPartsOfRule wsX4_isRule := goodIn_r _ [8, 9, 10, 11, 3, 12, 13, 14, 15, 16, 17, 18, 19, 20, 21, 22, 23, 24, 25, 26, 27, 28, 29, 30] (by decide +kernel) (by decide +kernel)
set_option maxRecDepth 20000 in
theorem gX4_knowsPartsOfRule_X4_isRule : GoodIn wsX4_knowsPartsOfRule (wsV RX4 151 RX4 yX4_isRule wsX4_isRule) := goodIn_app (goodIn_of _ (by decide +kernel)) ggX4_knowsPartsOfRule_X4_isRule
theorem dX4_knowsPartsOfRule_0 : decode cX4_knowsPartsOfRule 0 = .ok (.iload_n 1, 1) := by decide +kernel
theorem dX4_knowsPartsOfRule_1 : decode cX4_knowsPartsOfRule 1 = .ok (.tableswitch 91 3 9 #[43, 91, 63, 69, 69, 63, 69], 43) := by decide +kernel
theorem dX4_knowsPartsOfRule_44 : decode cX4_knowsPartsOfRule 44 = .ok (.iload_n 2, 1) := by decide +kernel
theorem dX4_knowsPartsOfRule_45 : decode cX4_knowsPartsOfRule 45 = .ok (.invokestatic 53, 3) := by decide +kernel
theorem dX4_knowsPartsOfRule_48 : decode cX4_knowsPartsOfRule 48 = .ok (.ifCond .eq 14, 3) := by decide +kernel
theorem dX4_knowsPartsOfRule_51 : decode cX4_knowsPartsOfRule 51 = .ok (.iload_n 3, 1) := by decide +kernel
theorem dX4_knowsPartsOfRule_52 : decode cX4_knowsPartsOfRule 52 = .ok (.invokestatic 53, 3) := by decide +kernel
theorem dX4_knowsPartsOfRule_55 : decode cX4_knowsPartsOfRule 55 = .ok (.ifCond .eq 7, 3) := by decide +kernel
theorem dX4_knowsPartsOfRule_58 : decode cX4_knowsPartsOfRule 58 = .ok (.iconst 1, 1) := by decide +kernel
theorem dX4_knowsPartsOfRule_59 : decode cX4_knowsPartsOfRule 59 = .ok (.goto 4, 3) := by decide +kernel
theorem dX4_knowsPartsOfRule_62 : decode cX4_knowsPartsOfRule 62 = .ok (.iconst 0, 1) := by decide +kernel
theorem dX4_knowsPartsOfRule_63 : decode cX4_knowsPartsOfRule 63 = .ok (.ireturn, 1) := by decide +kernel
theorem dX4_knowsPartsOfRule_64 : decode cX4_knowsPartsOfRule 64 = .ok (.aload_n 0, 1) := by decide +kernel
theorem dX4_knowsPartsOfRule_65 : decode cX4_knowsPartsOfRule 65 = .ok (.iload_n 2, 1) := by decide +kernel
theorem dX4_knowsPartsOfRule_66 : decode cX4_knowsPartsOfRule 66 = .ok (.invokevirtual 151, 3) := by decide +kernel
theorem dX4_knowsPartsOfRule_69 : decode cX4_knowsPartsOfRule 69 = .ok (.ireturn, 1) := by decide +kernel
theorem dX4_knowsPartsOfRule_70 : decode cX4_knowsPartsOfRule 70 = .ok (.aload_n 0, 1) := by decide +kernel
theorem dX4_knowsPartsOfRule_71 : decode cX4_knowsPartsOfRule 71 = .ok (.iload_n 2, 1) := by decide +kernel
theorem dX4_knowsPartsOfRule_72 : decode cX4_knowsPartsOfRule 72 = .ok (.invokevirtual 151, 3) := by decide +kernel
theorem dX4_knowsPartsOfRule_75 : decode cX4_knowsPartsOfRule 75 = .ok (.ifCond .eq 15, 3) := by decide +kernel
theorem dX4_knowsPartsOfRule_78 : decode cX4_knowsPartsOfRule 78 = .ok (.aload_n 0, 1) := by decide +kernel
theorem dX4_knowsPartsOfRule_79 : decode cX4_knowsPartsOfRule 79 = .ok (.iload_n 3, 1) := by decide +kernel
theorem dX4_knowsPartsOfRule_80 : decode cX4_knowsPartsOfRule 80 = .ok (.invokevirtual 151, 3) := by decide +kernel
theorem dX4_knowsPartsOfRule_83 : decode cX4_knowsPartsOfRule 83 = .ok (.ifCond .eq 7, 3) := by decide +kernel
theorem dX4_knowsPartsOfRule_86 : decode cX4_knowsPartsOfRule 86 = .ok (.iconst 1, 1) := by decide +kernel
theorem dX4_knowsPartsOfRule_87 : decode cX4_knowsPartsOfRule 87 = .ok (.goto 4, 3) := by decide +kernel
theorem dX4_knowsPartsOfRule_90 : decode cX4_knowsPartsOfRule 90 = .ok (.iconst 0, 1) := by decide +kernel
theorem dX4_knowsPartsOfRule_91 : decode cX4_knowsPartsOfRule 91 = .ok (.ireturn, 1) := by decide +kernel
theorem dX4_knowsPartsOfRule_92 : decode cX4_knowsPartsOfRule 92 = .ok (.iload_n 2, 1) := by decide +kernel
theorem dX4_knowsPartsOfRule_93 : decode cX4_knowsPartsOfRule 93 = .ok (.invokestatic 53, 3) := by decide +kernel
theorem dX4_knowsPartsOfRule_96 : decode cX4_knowsPartsOfRule 96 = .ok (.ireturn, 1) := by decide +kernel
set_option maxRecDepth 20000 in
theorem ggX4_hasNumbersOfRule_X4_isWithin : GoodIn wsX4_hasNumbersOfRule wsX4_isWithin := goodIn_r _ [4] (by decide +kernel) (by decide +kernel)
set_option maxRecDepth 20000 in
theorem gX4_hasNumbersOfRule_X4_isWithin : GoodIn wsX4_hasNumbersOfRule (va_wsS RX4 69 yX4_isWithin wsX4_isWithin) := goodIn_app (goodIn_of _ (by decide +kernel)) ggX4_hasNumbersOfRule_X4_isWithin
theorem dX4_hasNumbersOfRule_0 : decode cX4_hasNumbersOfRule 0 = .ok (.iload_n 0, 1) := by decide +kernel
theorem dX4_hasNumbersOfRule_1 : decode cX4_hasNumbersOfRule 1 = .ok (.lookupswitch 45 #[(1, 27), (8, 37)], 27) := by decide +kernel
theorem dX4_hasNumbersOfRule_28 : decode cX4_hasNumbersOfRule 28 = .ok (.iload_n 2, 1) := by decide +kernel
theorem dX4_hasNumbersOfRule_29 : decode cX4_hasNumbersOfRule 29 = .ok (.ifCond .lt 7, 3) := by decide +kernel
theorem dX4_hasNumbersOfRule_32 : decode cX4_hasNumbersOfRule 32 = .ok (.iconst 1, 1) := by decide +kernel
theorem dX4_hasNumbersOfRule_33 : decode cX4_hasNumbersOfRule 33 = .ok (.goto 4, 3) := by decide +kernel
theorem dX4_hasNumbersOfRule_36 : decode cX4_hasNumbersOfRule 36 = .ok (.iconst 0, 1) := by decide +kernel
theorem dX4_hasNumbersOfRule_37 : decode cX4_hasNumbersOfRule 37 = .ok (.ireturn, 1) := by decide +kernel
theorem dX4_hasNumbersOfRule_38 : decode cX4_hasNumbersOfRule 38 = .ok (.iload_n 1, 1) := by decide +kernel
theorem dX4_hasNumbersOfRule_39 : decode cX4_hasNumbersOfRule 39 = .ok (.iconst 1, 1) := by decide +kernel
theorem dX4_hasNumbersOfRule_40 : decode cX4_hasNumbersOfRule 40 = .ok (.bipush 100, 2) := by decide +kernel
theorem dX4_hasNumbersOfRule_42 : decode cX4_hasNumbersOfRule 42 = .ok (.invokestatic 69, 3) := by decide +kernel
theorem dX4_hasNumbersOfRule_45 : decode cX4_hasNumbersOfRule 45 = .ok (.ireturn, 1) := by decide +kernel
theorem dX4_hasNumbersOfRule_46 : decode cX4_hasNumbersOfRule 46 = .ok (.iconst 1, 1) := by decide +kernel
theorem dX4_hasNumbersOfRule_47 : decode cX4_hasNumbersOfRule 47 = .ok (.ireturn, 1) := by decide +kernel
set_option maxRecDepth 20000 in
theorem ggX4_knowsPartsOfAct_X4_isTank : GoodIn wsX4_knowsPartsOfAct wsX4_isTank := goodIn_r _ [4] (by decide +kernel) (by decide +kernel)
set_option maxRecDepth 20000 in
theorem gX4_knowsPartsOfAct_X4_isTank : GoodIn wsX4_knowsPartsOfAct (va_wsS RX4 65 yX4_isTank wsX4_isTank) := goodIn_app (goodIn_of _ (by decide +kernel)) ggX4_knowsPartsOfAct_X4_isTank
set_option maxRecDepth 20000 in
theorem ggX4_knowsPartsOfAct_X4_isRule : GoodIn wsX4_knowsPartsOfAct wsX4_isRule := goodIn_r _ [8, 9, 10, 11, 3, 12, 13, 14, 32, 33, 34, 35, 36, 37, 38, 39, 40, 41, 42, 43, 44, 45, 46, 47] (by decide +kernel) (by decide +kernel)
set_option maxRecDepth 20000 in
theorem gX4_knowsPartsOfAct_X4_isRule : GoodIn wsX4_knowsPartsOfAct (wsV RX4 151 RX4 yX4_isRule wsX4_isRule) := goodIn_app (goodIn_of _ (by decide +kernel)) ggX4_knowsPartsOfAct_X4_isRule
set_option maxRecDepth 20000 in
theorem ggX4_knowsPartsOfAct_X4_isActOrNone : GoodIn wsX4_knowsPartsOfAct wsX4_isActOrNone := goodIn_r _ [18, 19, 20, 21, 3, 22, 23, 24, 25, 26, 27, 28, 32, 33, 34, 35, 36, 37, 38, 39, 40, 41, 42, 43, 44, 45, 46, 47] (by decide +kernel) (by decide +kernel)
set_option maxRecDepth 20000 in
theorem gX4_knowsPartsOfAct_X4_isActOrNone : GoodIn wsX4_knowsPartsOfAct (wsV RX4 154 RX4 yX4_isActOrNone wsX4_isActOrNone) := goodIn_app (goodIn_of _ (by decide +kernel)) ggX4_knowsPartsOfAct_X4_isActOrNone
set_option maxRecDepth 20000 in
theorem ggX4_knowsPartsOfAct_X4_isAct : GoodIn wsX4_knowsPartsOfAct wsX4_isAct := goodIn_r _ [22, 23, 24, 25, 3, 26, 27, 28, 32, 33, 34, 35, 36, 37, 38, 39, 40, 41, 42, 43, 44, 45, 46, 47] (by decide +kernel) (by decide +kernel)
set_option maxRecDepth 20000 in
theorem gX4_knowsPartsOfAct_X4_isAct : GoodIn wsX4_knowsPartsOfAct (wsV RX4 157 RX4 yX4_isAct wsX4_isAct) := goodIn_app (goodIn_of _ (by decide +kernel)) ggX4_knowsPartsOfAct_X4_isAct
set_option maxRecDepth 20000 in
theorem ggX4_knowsPartsOfAct_X4_isSensor : GoodIn wsX4_knowsPartsOfAct wsX4_isSensor := goodIn_r _ [31] (by decide +kernel) (by decide +kernel)
set_option maxRecDepth 20000 in
theorem gX4_knowsPartsOfAct_X4_isSensor : GoodIn wsX4_knowsPartsOfAct (va_wsS RX4 53 yX4_isSensor wsX4_isSensor) := goodIn_app (goodIn_of _ (by decide +kernel)) ggX4_knowsPartsOfAct_X4_isSensor
theorem dX4_knowsPartsOfAct_0 : decode cX4_knowsPartsOfAct 0 = .ok (.iload_n 1, 1) := by decide +kernel
theorem dX4_knowsPartsOfAct_1 : decode cX4_knowsPartsOfAct 1 = .ok (.tableswitch 155 0 8 #[51, 56, 76, 107, 129, 129, 107, 155, 135], 51) := by decide +kernel
theorem dX4_knowsPartsOfAct_52 : decode cX4_knowsPartsOfAct 52 = .ok (.iload_n 2, 1) := by decide +kernel
theorem dX4_knowsPartsOfAct_53 : decode cX4_knowsPartsOfAct 53 = .ok (.invokestatic 65, 3) := by decide +kernel
theorem dX4_knowsPartsOfAct_56 : decode cX4_knowsPartsOfAct 56 = .ok (.ireturn, 1) := by decide +kernel
theorem dX4_knowsPartsOfAct_57 : decode cX4_knowsPartsOfAct 57 = .ok (.iload_n 2, 1) := by decide +kernel
theorem dX4_knowsPartsOfAct_58 : decode cX4_knowsPartsOfAct 58 = .ok (.invokestatic 65, 3) := by decide +kernel
theorem dX4_knowsPartsOfAct_61 : decode cX4_knowsPartsOfAct 61 = .ok (.ifCond .eq 14, 3) := by decide +kernel
theorem dX4_knowsPartsOfAct_64 : decode cX4_knowsPartsOfAct 64 = .ok (.iload_n 3, 1) := by decide +kernel
theorem dX4_knowsPartsOfAct_65 : decode cX4_knowsPartsOfAct 65 = .ok (.invokestatic 65, 3) := by decide +kernel
theorem dX4_knowsPartsOfAct_68 : decode cX4_knowsPartsOfAct 68 = .ok (.ifCond .eq 7, 3) := by decide +kernel
theorem dX4_knowsPartsOfAct_71 : decode cX4_knowsPartsOfAct 71 = .ok (.iconst 1, 1) := by decide +kernel
theorem dX4_knowsPartsOfAct_72 : decode cX4_knowsPartsOfAct 72 = .ok (.goto 4, 3) := by decide +kernel
theorem dX4_knowsPartsOfAct_75 : decode cX4_knowsPartsOfAct 75 = .ok (.iconst 0, 1) := by decide +kernel
theorem dX4_knowsPartsOfAct_76 : decode cX4_knowsPartsOfAct 76 = .ok (.ireturn, 1) := by decide +kernel
theorem dX4_knowsPartsOfAct_77 : decode cX4_knowsPartsOfAct 77 = .ok (.aload_n 0, 1) := by decide +kernel
theorem dX4_knowsPartsOfAct_78 : decode cX4_knowsPartsOfAct 78 = .ok (.iload_n 2, 1) := by decide +kernel
theorem dX4_knowsPartsOfAct_79 : decode cX4_knowsPartsOfAct 79 = .ok (.invokevirtual 151, 3) := by decide +kernel
theorem dX4_knowsPartsOfAct_82 : decode cX4_knowsPartsOfAct 82 = .ok (.ifCond .eq 24, 3) := by decide +kernel
theorem dX4_knowsPartsOfAct_85 : decode cX4_knowsPartsOfAct 85 = .ok (.aload_n 0, 1) := by decide +kernel
theorem dX4_knowsPartsOfAct_86 : decode cX4_knowsPartsOfAct 86 = .ok (.iload_n 3, 1) := by decide +kernel
theorem dX4_knowsPartsOfAct_87 : decode cX4_knowsPartsOfAct 87 = .ok (.invokevirtual 154, 3) := by decide +kernel
theorem dX4_knowsPartsOfAct_90 : decode cX4_knowsPartsOfAct 90 = .ok (.ifCond .eq 16, 3) := by decide +kernel
theorem dX4_knowsPartsOfAct_93 : decode cX4_knowsPartsOfAct 93 = .ok (.aload_n 0, 1) := by decide +kernel
theorem dX4_knowsPartsOfAct_94 : decode cX4_knowsPartsOfAct 94 = .ok (.iload 4, 2) := by decide +kernel
theorem dX4_knowsPartsOfAct_96 : decode cX4_knowsPartsOfAct 96 = .ok (.invokevirtual 154, 3) := by decide +kernel
theorem dX4_knowsPartsOfAct_99 : decode cX4_knowsPartsOfAct 99 = .ok (.ifCond .eq 7, 3) := by decide +kernel
theorem dX4_knowsPartsOfAct_102 : decode cX4_knowsPartsOfAct 102 = .ok (.iconst 1, 1) := by decide +kernel
theorem dX4_knowsPartsOfAct_103 : decode cX4_knowsPartsOfAct 103 = .ok (.goto 4, 3) := by decide +kernel
theorem dX4_knowsPartsOfAct_106 : decode cX4_knowsPartsOfAct 106 = .ok (.iconst 0, 1) := by decide +kernel
theorem dX4_knowsPartsOfAct_107 : decode cX4_knowsPartsOfAct 107 = .ok (.ireturn, 1) := by decide +kernel
theorem dX4_knowsPartsOfAct_108 : decode cX4_knowsPartsOfAct 108 = .ok (.aload_n 0, 1) := by decide +kernel
theorem dX4_knowsPartsOfAct_109 : decode cX4_knowsPartsOfAct 109 = .ok (.iload_n 2, 1) := by decide +kernel
theorem dX4_knowsPartsOfAct_110 : decode cX4_knowsPartsOfAct 110 = .ok (.invokevirtual 157, 3) := by decide +kernel
theorem dX4_knowsPartsOfAct_113 : decode cX4_knowsPartsOfAct 113 = .ok (.ifCond .eq 15, 3) := by decide +kernel
theorem dX4_knowsPartsOfAct_116 : decode cX4_knowsPartsOfAct 116 = .ok (.aload_n 0, 1) := by decide +kernel
theorem dX4_knowsPartsOfAct_117 : decode cX4_knowsPartsOfAct 117 = .ok (.iload_n 3, 1) := by decide +kernel
theorem dX4_knowsPartsOfAct_118 : decode cX4_knowsPartsOfAct 118 = .ok (.invokevirtual 157, 3) := by decide +kernel
theorem dX4_knowsPartsOfAct_121 : decode cX4_knowsPartsOfAct 121 = .ok (.ifCond .eq 7, 3) := by decide +kernel
theorem dX4_knowsPartsOfAct_124 : decode cX4_knowsPartsOfAct 124 = .ok (.iconst 1, 1) := by decide +kernel
theorem dX4_knowsPartsOfAct_125 : decode cX4_knowsPartsOfAct 125 = .ok (.goto 4, 3) := by decide +kernel
theorem dX4_knowsPartsOfAct_128 : decode cX4_knowsPartsOfAct 128 = .ok (.iconst 0, 1) := by decide +kernel
theorem dX4_knowsPartsOfAct_129 : decode cX4_knowsPartsOfAct 129 = .ok (.ireturn, 1) := by decide +kernel
theorem dX4_knowsPartsOfAct_130 : decode cX4_knowsPartsOfAct 130 = .ok (.aload_n 0, 1) := by decide +kernel
theorem dX4_knowsPartsOfAct_131 : decode cX4_knowsPartsOfAct 131 = .ok (.iload_n 2, 1) := by decide +kernel
theorem dX4_knowsPartsOfAct_132 : decode cX4_knowsPartsOfAct 132 = .ok (.invokevirtual 157, 3) := by decide +kernel
theorem dX4_knowsPartsOfAct_135 : decode cX4_knowsPartsOfAct 135 = .ok (.ireturn, 1) := by decide +kernel
theorem dX4_knowsPartsOfAct_136 : decode cX4_knowsPartsOfAct 136 = .ok (.iload_n 2, 1) := by decide +kernel
theorem dX4_knowsPartsOfAct_137 : decode cX4_knowsPartsOfAct 137 = .ok (.invokestatic 53, 3) := by decide +kernel
theorem dX4_knowsPartsOfAct_140 : decode cX4_knowsPartsOfAct 140 = .ok (.ifCond .eq 14, 3) := by decide +kernel
theorem dX4_knowsPartsOfAct_143 : decode cX4_knowsPartsOfAct 143 = .ok (.iload_n 3, 1) := by decide +kernel
theorem dX4_knowsPartsOfAct_144 : decode cX4_knowsPartsOfAct 144 = .ok (.invokestatic 65, 3) := by decide +kernel
theorem dX4_knowsPartsOfAct_147 : decode cX4_knowsPartsOfAct 147 = .ok (.ifCond .eq 7, 3) := by decide +kernel
theorem dX4_knowsPartsOfAct_150 : decode cX4_knowsPartsOfAct 150 = .ok (.iconst 1, 1) := by decide +kernel
theorem dX4_knowsPartsOfAct_151 : decode cX4_knowsPartsOfAct 151 = .ok (.goto 4, 3) := by decide +kernel
theorem dX4_knowsPartsOfAct_154 : decode cX4_knowsPartsOfAct 154 = .ok (.iconst 0, 1) := by decide +kernel
theorem dX4_knowsPartsOfAct_155 : decode cX4_knowsPartsOfAct 155 = .ok (.ireturn, 1) := by decide +kernel
theorem dX4_knowsPartsOfAct_156 : decode cX4_knowsPartsOfAct 156 = .ok (.iconst 1, 1) := by decide +kernel
theorem dX4_knowsPartsOfAct_157 : decode cX4_knowsPartsOfAct 157 = .ok (.ireturn, 1) := by decide +kernel
set_option maxRecDepth 20000 in
theorem ggX4_isActOrNone_X4_isAct : GoodIn wsX4_isActOrNone wsX4_isAct := goodIn_r _ [5, 6, 7, 8, 4, 9, 10, 11, 12, 13, 14, 15, 16, 17, 18, 19, 20, 21, 22, 23, 24, 25, 26, 27] (by decide +kernel) (by decide +kernel)
set_option maxRecDepth 20000 in
theorem gX4_isActOrNone_X4_isAct : GoodIn wsX4_isActOrNone (wsV RX4 157 RX4 yX4_isAct wsX4_isAct) := goodIn_app (goodIn_of _ (by decide +kernel)) ggX4_isActOrNone_X4_isAct
theorem dX4_isActOrNone_0 : decode cX4_isActOrNone 0 = .ok (.iload_n 1, 1) := by decide +kernel
theorem dX4_isActOrNone_1 : decode cX4_isActOrNone 1 = .ok (.iconst (-1), 1) := by decide +kernel
theorem dX4_isActOrNone_2 : decode cX4_isActOrNone 2 = .ok (.if_icmp .eq 11, 3) := by decide +kernel
theorem dX4_isActOrNone_5 : decode cX4_isActOrNone 5 = .ok (.aload_n 0, 1) := by decide +kernel
theorem dX4_isActOrNone_6 : decode cX4_isActOrNone 6 = .ok (.iload_n 1, 1) := by decide +kernel
theorem dX4_isActOrNone_7 : decode cX4_isActOrNone 7 = .ok (.invokevirtual 157, 3) := by decide +kernel
theorem dX4_isActOrNone_10 : decode cX4_isActOrNone 10 = .ok (.ifCond .eq 7, 3) := by decide +kernel
theorem dX4_isActOrNone_13 : decode cX4_isActOrNone 13 = .ok (.iconst 1, 1) := by decide +kernel
theorem dX4_isActOrNone_14 : decode cX4_isActOrNone 14 = .ok (.goto 4, 3) := by decide +kernel
theorem dX4_isActOrNone_17 : decode cX4_isActOrNone 17 = .ok (.iconst 0, 1) := by decide +kernel
theorem dX4_isActOrNone_18 : decode cX4_isActOrNone 18 = .ok (.ireturn, 1) := by decide +kernel
set_option maxRecDepth 20000 in
theorem ggX4_hasNumbersOfAct_X4_isWithin : GoodIn wsX4_hasNumbersOfAct wsX4_isWithin := goodIn_r _ [4] (by decide +kernel) (by decide +kernel)
set_option maxRecDepth 20000 in
theorem gX4_hasNumbersOfAct_X4_isWithin : GoodIn wsX4_hasNumbersOfAct (va_wsS RX4 69 yX4_isWithin wsX4_isWithin) := goodIn_app (goodIn_of _ (by decide +kernel)) ggX4_hasNumbersOfAct_X4_isWithin
theorem dX4_hasNumbersOfAct_0 : decode cX4_hasNumbersOfAct 0 = .ok (.iload_n 0, 1) := by decide +kernel
theorem dX4_hasNumbersOfAct_1 : decode cX4_hasNumbersOfAct 1 = .ok (.tableswitch 73 0 5 #[39, 48, 73, 73, 57, 65], 39) := by decide +kernel
theorem dX4_hasNumbersOfAct_40 : decode cX4_hasNumbersOfAct 40 = .ok (.iload_n 1, 1) := by decide +kernel
theorem dX4_hasNumbersOfAct_41 : decode cX4_hasNumbersOfAct 41 = .ok (.iconst 0, 1) := by decide +kernel
theorem dX4_hasNumbersOfAct_42 : decode cX4_hasNumbersOfAct 42 = .ok (.sipush 1000, 3) := by decide +kernel
theorem dX4_hasNumbersOfAct_45 : decode cX4_hasNumbersOfAct 45 = .ok (.invokestatic 69, 3) := by decide +kernel
theorem dX4_hasNumbersOfAct_48 : decode cX4_hasNumbersOfAct 48 = .ok (.ireturn, 1) := by decide +kernel
theorem dX4_hasNumbersOfAct_49 : decode cX4_hasNumbersOfAct 49 = .ok (.iload_n 2, 1) := by decide +kernel
theorem dX4_hasNumbersOfAct_50 : decode cX4_hasNumbersOfAct 50 = .ok (.iconst 0, 1) := by decide +kernel
theorem dX4_hasNumbersOfAct_51 : decode cX4_hasNumbersOfAct 51 = .ok (.sipush 1000, 3) := by decide +kernel
theorem dX4_hasNumbersOfAct_54 : decode cX4_hasNumbersOfAct 54 = .ok (.invokestatic 69, 3) := by decide +kernel
theorem dX4_hasNumbersOfAct_57 : decode cX4_hasNumbersOfAct 57 = .ok (.ireturn, 1) := by decide +kernel
theorem dX4_hasNumbersOfAct_58 : decode cX4_hasNumbersOfAct 58 = .ok (.iload_n 1, 1) := by decide +kernel
theorem dX4_hasNumbersOfAct_59 : decode cX4_hasNumbersOfAct 59 = .ok (.iconst 0, 1) := by decide +kernel
theorem dX4_hasNumbersOfAct_60 : decode cX4_hasNumbersOfAct 60 = .ok (.bipush 9, 2) := by decide +kernel
theorem dX4_hasNumbersOfAct_62 : decode cX4_hasNumbersOfAct 62 = .ok (.invokestatic 69, 3) := by decide +kernel
theorem dX4_hasNumbersOfAct_65 : decode cX4_hasNumbersOfAct 65 = .ok (.ireturn, 1) := by decide +kernel
theorem dX4_hasNumbersOfAct_66 : decode cX4_hasNumbersOfAct 66 = .ok (.iload_n 1, 1) := by decide +kernel
theorem dX4_hasNumbersOfAct_67 : decode cX4_hasNumbersOfAct 67 = .ok (.iconst 0, 1) := by decide +kernel
theorem dX4_hasNumbersOfAct_68 : decode cX4_hasNumbersOfAct 68 = .ok (.bipush 100, 2) := by decide +kernel
theorem dX4_hasNumbersOfAct_70 : decode cX4_hasNumbersOfAct 70 = .ok (.invokestatic 69, 3) := by decide +kernel
theorem dX4_hasNumbersOfAct_73 : decode cX4_hasNumbersOfAct 73 = .ok (.ireturn, 1) := by decide +kernel
theorem dX4_hasNumbersOfAct_74 : decode cX4_hasNumbersOfAct 74 = .ok (.iconst 1, 1) := by decide +kernel
theorem dX4_hasNumbersOfAct_75 : decode cX4_hasNumbersOfAct 75 = .ok (.ireturn, 1) := by decide +kernel
theorem dX4_startWork_0 : decode cX4_startWork 0 = .ok (.aload_n 0, 1) := by decide +kernel
theorem dX4_startWork_1 : decode cX4_startWork 1 = .ok (.iconst 0, 1) := by decide +kernel
theorem dX4_startWork_2 : decode cX4_startWork 2 = .ok (.putfield 99, 3) := by decide +kernel
theorem dX4_startWork_5 : decode cX4_startWork 5 = .ok (.aload_n 0, 1) := by decide +kernel
theorem dX4_startWork_6 : decode cX4_startWork 6 = .ok (.iconst 0, 1) := by decide +kernel
theorem dX4_startWork_7 : decode cX4_startWork 7 = .ok (.putfield 105, 3) := by decide +kernel
theorem dX4_startWork_10 : decode cX4_startWork 10 = .ok (.return_, 1) := by decide +kernel
theorem dX4_begins_0 : decode cX4_begins 0 = .ok (.aload_n 0, 1) := by decide +kernel
theorem dX4_begins_1 : decode cX4_begins 1 = .ok (.getfield 99, 3) := by decide +kernel
theorem dX4_begins_4 : decode cX4_begins 4 = .ok (.sipush 300, 3) := by decide +kernel
theorem dX4_begins_7 : decode cX4_begins 7 = .ok (.if_icmp .lt 10, 3) := by decide +kernel
theorem dX4_begins_10 : decode cX4_begins 10 = .ok (.aload_n 0, 1) := by decide +kernel
theorem dX4_begins_11 : decode cX4_begins 11 = .ok (.iconst 5, 1) := by decide +kernel
theorem dX4_begins_12 : decode cX4_begins 12 = .ok (.putfield 105, 3) := by decide +kernel
theorem dX4_begins_15 : decode cX4_begins 15 = .ok (.iconst 0, 1) := by decide +kernel
theorem dX4_begins_16 : decode cX4_begins 16 = .ok (.ireturn, 1) := by decide +kernel
theorem dX4_begins_17 : decode cX4_begins 17 = .ok (.aload_n 0, 1) := by decide +kernel
theorem dX4_begins_18 : decode cX4_begins 18 = .ok (.dup, 1) := by decide +kernel
theorem dX4_begins_19 : decode cX4_begins 19 = .ok (.getfield 99, 3) := by decide +kernel
theorem dX4_begins_22 : decode cX4_begins 22 = .ok (.iconst 1, 1) := by decide +kernel
theorem dX4_begins_23 : decode cX4_begins 23 = .ok (.iadd, 1) := by decide +kernel
theorem dX4_begins_24 : decode cX4_begins 24 = .ok (.putfield 99, 3) := by decide +kernel
theorem dX4_begins_27 : decode cX4_begins 27 = .ok (.aload_n 0, 1) := by decide +kernel
theorem dX4_begins_28 : decode cX4_begins 28 = .ok (.dup, 1) := by decide +kernel
theorem dX4_begins_29 : decode cX4_begins 29 = .ok (.getfield 89, 3) := by decide +kernel
theorem dX4_begins_32 : decode cX4_begins 32 = .ok (.iconst 1, 1) := by decide +kernel
theorem dX4_begins_33 : decode cX4_begins 33 = .ok (.iadd, 1) := by decide +kernel
theorem dX4_begins_34 : decode cX4_begins 34 = .ok (.putfield 89, 3) := by decide +kernel
theorem dX4_begins_37 : decode cX4_begins 37 = .ok (.iconst 1, 1) := by decide +kernel
theorem dX4_begins_38 : decode cX4_begins 38 = .ok (.ireturn, 1) := by decide +kernel
theorem dX4_canBeCaught_0 : decode cX4_canBeCaught 0 = .ok (.aload_n 0, 1) := by decide +kernel
theorem dX4_canBeCaught_1 : decode cX4_canBeCaught 1 = .ok (.getfield 105, 3) := by decide +kernel
theorem dX4_canBeCaught_4 : decode cX4_canBeCaught 4 = .ok (.ifCond .eq 15, 3) := by decide +kernel
theorem dX4_canBeCaught_7 : decode cX4_canBeCaught 7 = .ok (.aload_n 0, 1) := by decide +kernel
theorem dX4_canBeCaught_8 : decode cX4_canBeCaught 8 = .ok (.getfield 105, 3) := by decide +kernel
theorem dX4_canBeCaught_11 : decode cX4_canBeCaught 11 = .ok (.iconst 5, 1) := by decide +kernel
theorem dX4_canBeCaught_12 : decode cX4_canBeCaught 12 = .ok (.if_icmp .eq 7, 3) := by decide +kernel
theorem dX4_canBeCaught_15 : decode cX4_canBeCaught 15 = .ok (.iconst 1, 1) := by decide +kernel
theorem dX4_canBeCaught_16 : decode cX4_canBeCaught 16 = .ok (.goto 4, 3) := by decide +kernel
theorem dX4_canBeCaught_19 : decode cX4_canBeCaught 19 = .ok (.iconst 0, 1) := by decide +kernel
theorem dX4_canBeCaught_20 : decode cX4_canBeCaught 20 = .ok (.ireturn, 1) := by decide +kernel
set_option maxRecDepth 20000 in
theorem ggX4_says_X4_begins : GoodIn wsX4_says wsX4_begins := goodIn_r _ [15, 16, 1, 17, 64, 65, 66, 67, 68, 69, 70, 71, 72, 73, 74, 75, 76, 77, 78, 79] (by decide +kernel) (by decide +kernel)
set_option maxRecDepth 20000 in
theorem gX4_says_X4_begins : GoodIn wsX4_says (wsV RX4 160 RX4 yX4_begins wsX4_begins) := goodIn_app (goodIn_of _ (by decide +kernel)) ggX4_says_X4_begins
set_option maxRecDepth 20000 in
theorem ggX4_says_X4_ruleAt : GoodIn wsX4_says wsX4_ruleAt := goodIn_r _ [21, 22, 23, 64, 65, 66, 67, 68, 69, 70, 71, 72, 73, 74, 75, 76, 77, 78, 79] (by decide +kernel) (by decide +kernel)
set_option maxRecDepth 20000 in
theorem gX4_says_X4_ruleAt : GoodIn wsX4_says (wsV RX4 85 RX4 yX4_ruleAt wsX4_ruleAt) := goodIn_app (goodIn_of _ (by decide +kernel)) ggX4_says_X4_ruleAt
set_option maxRecDepth 20000 in
theorem ggX4_says_X4_reading : GoodIn wsX4_says wsX4_reading := goodIn_r _ [27, 28, 64, 65, 66, 67, 68, 69, 70, 71, 72, 73, 74, 75, 76, 77, 78, 79] (by decide +kernel) (by decide +kernel)
set_option maxRecDepth 20000 in
theorem gX4_says_X4_reading : GoodIn wsX4_says (wsV RX4 61 RX4 yX4_reading wsX4_reading) := goodIn_app (goodIn_of _ (by decide +kernel)) ggX4_says_X4_reading
set_option maxRecDepth 20000 in
theorem ggX4_says_X4_saysShare : GoodIn wsX4_says wsX4_saysShare := goodIn_r _ [32, 3, 4, 1, 9, 24, 25, 26, 14, 27, 28, 80, 81, 82, 83, 84, 85, 64, 65, 66, 67, 68, 69, 70, 71, 72, 73, 74, 75, 76, 77, 78, 79] (by decide +kernel) (by decide +kernel)
set_option maxRecDepth 20000 in
theorem gX4_says_X4_saysShare : GoodIn wsX4_says (wsV RX4 185 RX4 yX4_saysShare wsX4_saysShare) := goodIn_app (goodIn_of _ (by decide +kernel)) ggX4_says_X4_saysShare
set_option maxRecDepth 20000 in
theorem ggX4_says_X4_saysPointed : GoodIn wsX4_says wsX4_saysPointed := goodIn_r _ [36, 3, 1, 4, 24, 25, 26, 14, 27, 28, 37, 38, 39, 80, 81, 82, 83, 84, 85, 64, 65, 66, 67, 68, 69, 70, 71, 72, 73, 74, 75, 76, 77, 78, 79] (by decide +kernel) (by decide +kernel)
set_option maxRecDepth 20000 in
theorem gX4_says_X4_saysPointed : GoodIn wsX4_says (wsV RX4 189 RX4 yX4_saysPointed wsX4_saysPointed) := goodIn_app (goodIn_of _ (by decide +kernel)) ggX4_says_X4_saysPointed
set_option maxRecDepth 20000 in
theorem ggX4_says_X4_says : GoodIn wsX4_says wsX4_says := goodIn_r _ [0, 1, 2, 3, 4, 5, 6, 7, 8, 9, 10, 11, 12, 13, 14, 15, 16, 17, 18, 19, 20, 21, 22, 23, 24, 25, 26, 27, 28, 29, 30, 31, 32, 33, 34, 35, 36, 37, 38, 39, 40, 41, 42, 43, 44, 45, 46, 47, 48, 49, 50, 51, 52, 53, 54, 55, 56, 57, 58, 59, 60, 61, 62, 63, 64, 65, 66, 67, 68, 69, 70, 71, 72, 73, 74, 75, 76, 77, 78, 79, 80, 81, 82, 83, 84, 85] (by decide +kernel) (by decide +kernel)
set_option maxRecDepth 20000 in
theorem gX4_says_X4_says : GoodIn wsX4_says (wsV RX4 95 RX4 yX4_says wsX4_says) := goodIn_app (goodIn_of _ (by decide +kernel)) ggX4_says_X4_says
set_option maxRecDepth 20000 in
theorem ggX4_says_X4_saysBoth : GoodIn wsX4_says wsX4_saysBoth := goodIn_r _ [55, 3, 1, 4, 40, 41, 42, 14, 0, 2, 5, 6, 7, 8, 9, 10, 11, 12, 13, 15, 16, 17, 18, 19, 20, 21, 22, 23, 24, 25, 26, 27, 28, 29, 30, 31, 32, 33, 34, 35, 36, 37, 38, 39, 43, 44, 45, 46, 47, 48, 49, 50, 51, 52, 53, 54, 56, 57, 58, 59, 60, 61, 62, 63, 64, 65, 66, 67, 68, 69, 70, 71, 72, 73, 74, 75, 76, 77, 78, 79, 80, 81, 82, 83, 84, 85] (by decide +kernel) (by decide +kernel)
set_option maxRecDepth 20000 in
theorem gX4_says_X4_saysBoth : GoodIn wsX4_says (wsV RX4 192 RX4 yX4_saysBoth wsX4_saysBoth) := goodIn_app (goodIn_of _ (by decide +kernel)) ggX4_says_X4_saysBoth
set_option maxRecDepth 20000 in
theorem ggX4_says_X4_saysEither : GoodIn wsX4_says wsX4_saysEither := goodIn_r _ [56, 3, 1, 4, 40, 41, 42, 14, 0, 2, 5, 6, 7, 8, 9, 10, 11, 12, 13, 15, 16, 17, 18, 19, 20, 21, 22, 23, 24, 25, 26, 27, 28, 29, 30, 31, 32, 33, 34, 35, 36, 37, 38, 39, 43, 44, 45, 46, 47, 48, 49, 50, 51, 52, 53, 54, 55, 57, 58, 59, 60, 61, 62, 63, 64, 65, 66, 67, 68, 69, 70, 71, 72, 73, 74, 75, 76, 77, 78, 79, 80, 81, 82, 83, 84, 85] (by decide +kernel) (by decide +kernel)
set_option maxRecDepth 20000 in
theorem gX4_says_X4_saysEither : GoodIn wsX4_says (wsV RX4 196 RX4 yX4_saysEither wsX4_saysEither) := goodIn_app (goodIn_of _ (by decide +kernel)) ggX4_says_X4_saysEither
set_option maxRecDepth 20000 in
theorem ggX4_says_X4_saysOften : GoodIn wsX4_says wsX4_saysOften := goodIn_r _ [62, 3, 1, 63, 4, 40, 41, 42, 14, 0, 2, 5, 6, 7, 8, 9, 10, 11, 12, 13, 15, 16, 17, 18, 19, 20, 21, 22, 23, 24, 25, 26, 27, 28, 29, 30, 31, 32, 33, 34, 35, 36, 37, 38, 39, 43, 44, 45, 46, 47, 48, 49, 50, 51, 52, 53, 54, 55, 56, 57, 58, 59, 60, 61, 64, 65, 66, 67, 68, 69, 70, 71, 72, 73, 74, 75, 76, 77, 78, 79, 80, 81, 82, 83, 84, 85] (by decide +kernel) (by decide +kernel)
set_option maxRecDepth 20000 in
theorem gX4_says_X4_saysOften : GoodIn wsX4_says (wsV RX4 199 RX4 yX4_saysOften wsX4_saysOften) := goodIn_app (goodIn_of _ (by decide +kernel)) ggX4_says_X4_saysOften
set_option maxRecDepth 20000 in
theorem ggX4_says_X4_saysElse : GoodIn wsX4_says wsX4_saysElse := goodIn_r _ [57, 3, 1, 4, 40, 41, 42, 14, 58, 59, 60, 61, 0, 2, 5, 6, 7, 8, 9, 10, 11, 12, 13, 15, 16, 17, 18, 19, 20, 21, 22, 23, 24, 25, 26, 27, 28, 29, 30, 31, 32, 33, 34, 35, 36, 37, 38, 39, 43, 44, 45, 46, 47, 48, 49, 50, 51, 52, 53, 54, 55, 56, 62, 63, 64, 65, 66, 67, 68, 69, 70, 71, 72, 73, 74, 75, 76, 77, 78, 79, 80, 81, 82, 83, 84, 85] (by decide +kernel) (by decide +kernel)
set_option maxRecDepth 20000 in
theorem gX4_says_X4_saysElse : GoodIn wsX4_says (wsV RX4 202 RX4 yX4_saysElse wsX4_saysElse) := goodIn_app (goodIn_of _ (by decide +kernel)) ggX4_says_X4_saysElse
theorem dX4_says_0 : decode cX4_says 0 = .ok (.aload_n 0, 1) := by decide +kernel
theorem dX4_says_1 : decode cX4_says 1 = .ok (.invokevirtual 160, 3) := by decide +kernel
theorem dX4_says_4 : decode cX4_says 4 = .ok (.ifCond .ne 5, 3) := by decide +kernel
theorem dX4_says_7 : decode cX4_says 7 = .ok (.iconst 0, 1) := by decide +kernel
theorem dX4_says_8 : decode cX4_says 8 = .ok (.ireturn, 1) := by decide +kernel
theorem dX4_says_9 : decode cX4_says 9 = .ok (.aload_n 0, 1) := by decide +kernel
theorem dX4_says_10 : decode cX4_says 10 = .ok (.iload_n 1, 1) := by decide +kernel
theorem dX4_says_11 : decode cX4_says 11 = .ok (.invokevirtual 85, 3) := by decide +kernel
theorem dX4_says_14 : decode cX4_says 14 = .ok (.astore_n 3, 1) := by decide +kernel
theorem dX4_says_15 : decode cX4_says 15 = .ok (.aload_n 3, 1) := by decide +kernel
theorem dX4_says_16 : decode cX4_says 16 = .ok (.ifnull 9, 3) := by decide +kernel
theorem dX4_says_19 : decode cX4_says 19 = .ok (.iload_n 2, 1) := by decide +kernel
theorem dX4_says_20 : decode cX4_says 20 = .ok (.bipush 40, 2) := by decide +kernel
theorem dX4_says_22 : decode cX4_says 22 = .ok (.if_icmp .lt 10, 3) := by decide +kernel
theorem dX4_says_25 : decode cX4_says 25 = .ok (.aload_n 0, 1) := by decide +kernel
theorem dX4_says_26 : decode cX4_says 26 = .ok (.iconst 4, 1) := by decide +kernel
theorem dX4_says_27 : decode cX4_says 27 = .ok (.putfield 105, 3) := by decide +kernel
theorem dX4_says_30 : decode cX4_says 30 = .ok (.iconst 0, 1) := by decide +kernel
theorem dX4_says_31 : decode cX4_says 31 = .ok (.ireturn, 1) := by decide +kernel
theorem dX4_says_32 : decode cX4_says 32 = .ok (.aload_n 3, 1) := by decide +kernel
theorem dX4_says_33 : decode cX4_says 33 = .ok (.getfield 164, 3) := by decide +kernel
theorem dX4_says_36 : decode cX4_says 36 = .ok (.tableswitch 180 0 8 #[52, 73, 106, 127, 133, 139, 159, 166, 173], 52) := by decide +kernel
theorem dX4_says_88 : decode cX4_says 88 = .ok (.aload_n 0, 1) := by decide +kernel
theorem dX4_says_89 : decode cX4_says 89 = .ok (.aload_n 3, 1) := by decide +kernel
theorem dX4_says_90 : decode cX4_says 90 = .ok (.getfield 167, 3) := by decide +kernel
theorem dX4_says_93 : decode cX4_says 93 = .ok (.invokevirtual 61, 3) := by decide +kernel
theorem dX4_says_96 : decode cX4_says 96 = .ok (.aload_n 3, 1) := by decide +kernel
theorem dX4_says_97 : decode cX4_says 97 = .ok (.getfield 170, 3) := by decide +kernel
theorem dX4_says_100 : decode cX4_says 100 = .ok (.if_icmp .le 7, 3) := by decide +kernel
theorem dX4_says_103 : decode cX4_says 103 = .ok (.iconst 1, 1) := by decide +kernel
theorem dX4_says_104 : decode cX4_says 104 = .ok (.goto 4, 3) := by decide +kernel
theorem dX4_says_107 : decode cX4_says 107 = .ok (.iconst 0, 1) := by decide +kernel
theorem dX4_says_108 : decode cX4_says 108 = .ok (.ireturn, 1) := by decide +kernel
theorem dX4_says_109 : decode cX4_says 109 = .ok (.aload_n 0, 1) := by decide +kernel
theorem dX4_says_110 : decode cX4_says 110 = .ok (.aload_n 3, 1) := by decide +kernel
theorem dX4_says_111 : decode cX4_says 111 = .ok (.getfield 167, 3) := by decide +kernel
theorem dX4_says_114 : decode cX4_says 114 = .ok (.invokevirtual 61, 3) := by decide +kernel
theorem dX4_says_117 : decode cX4_says 117 = .ok (.i2l, 1) := by decide +kernel
theorem dX4_says_118 : decode cX4_says 118 = .ok (.aload_n 3, 1) := by decide +kernel
theorem dX4_says_119 : decode cX4_says 119 = .ok (.getfield 170, 3) := by decide +kernel
theorem dX4_says_122 : decode cX4_says 122 = .ok (.i2l, 1) := by decide +kernel
theorem dX4_says_123 : decode cX4_says 123 = .ok (.lsub, 1) := by decide +kernel
theorem dX4_says_124 : decode cX4_says 124 = .ok (.invokestatic 173, 3) := by decide +kernel
theorem dX4_says_127 : decode cX4_says 127 = .ok (.aload_n 3, 1) := by decide +kernel
theorem dX4_says_128 : decode cX4_says 128 = .ok (.getfield 179, 3) := by decide +kernel
theorem dX4_says_131 : decode cX4_says 131 = .ok (.i2l, 1) := by decide +kernel
theorem dX4_says_132 : decode cX4_says 132 = .ok (.lcmp, 1) := by decide +kernel
theorem dX4_says_133 : decode cX4_says 133 = .ok (.ifCond .gt 7, 3) := by decide +kernel
theorem dX4_says_136 : decode cX4_says 136 = .ok (.iconst 1, 1) := by decide +kernel
theorem dX4_says_137 : decode cX4_says 137 = .ok (.goto 4, 3) := by decide +kernel
theorem dX4_says_140 : decode cX4_says 140 = .ok (.iconst 0, 1) := by decide +kernel
theorem dX4_says_141 : decode cX4_says 141 = .ok (.ireturn, 1) := by decide +kernel
theorem dX4_says_142 : decode cX4_says 142 = .ok (.aload_n 0, 1) := by decide +kernel
theorem dX4_says_143 : decode cX4_says 143 = .ok (.aload_n 3, 1) := by decide +kernel
theorem dX4_says_144 : decode cX4_says 144 = .ok (.getfield 167, 3) := by decide +kernel
theorem dX4_says_147 : decode cX4_says 147 = .ok (.invokevirtual 61, 3) := by decide +kernel
theorem dX4_says_150 : decode cX4_says 150 = .ok (.aload_n 3, 1) := by decide +kernel
theorem dX4_says_151 : decode cX4_says 151 = .ok (.getfield 182, 3) := by decide +kernel
theorem dX4_says_154 : decode cX4_says 154 = .ok (.if_icmp .eq 7, 3) := by decide +kernel
theorem dX4_says_157 : decode cX4_says 157 = .ok (.iconst 1, 1) := by decide +kernel
theorem dX4_says_158 : decode cX4_says 158 = .ok (.goto 4, 3) := by decide +kernel
theorem dX4_says_161 : decode cX4_says 161 = .ok (.iconst 0, 1) := by decide +kernel
theorem dX4_says_162 : decode cX4_says 162 = .ok (.ireturn, 1) := by decide +kernel
theorem dX4_says_163 : decode cX4_says 163 = .ok (.aload_n 0, 1) := by decide +kernel
theorem dX4_says_164 : decode cX4_says 164 = .ok (.aload_n 3, 1) := by decide +kernel
theorem dX4_says_165 : decode cX4_says 165 = .ok (.invokevirtual 185, 3) := by decide +kernel
theorem dX4_says_168 : decode cX4_says 168 = .ok (.ireturn, 1) := by decide +kernel
theorem dX4_says_169 : decode cX4_says 169 = .ok (.aload_n 0, 1) := by decide +kernel
theorem dX4_says_170 : decode cX4_says 170 = .ok (.aload_n 3, 1) := by decide +kernel
theorem dX4_says_171 : decode cX4_says 171 = .ok (.invokevirtual 189, 3) := by decide +kernel
theorem dX4_says_174 : decode cX4_says 174 = .ok (.ireturn, 1) := by decide +kernel
theorem dX4_says_175 : decode cX4_says 175 = .ok (.aload_n 0, 1) := by decide +kernel
theorem dX4_says_176 : decode cX4_says 176 = .ok (.aload_n 3, 1) := by decide +kernel
theorem dX4_says_177 : decode cX4_says 177 = .ok (.getfield 167, 3) := by decide +kernel
theorem dX4_says_180 : decode cX4_says 180 = .ok (.iload_n 2, 1) := by decide +kernel
theorem dX4_says_181 : decode cX4_says 181 = .ok (.iconst 1, 1) := by decide +kernel
theorem dX4_says_182 : decode cX4_says 182 = .ok (.iadd, 1) := by decide +kernel
theorem dX4_says_183 : decode cX4_says 183 = .ok (.invokevirtual 95, 3) := by decide +kernel
theorem dX4_says_186 : decode cX4_says 186 = .ok (.ifCond .ne 7, 3) := by decide +kernel
theorem dX4_says_189 : decode cX4_says 189 = .ok (.iconst 1, 1) := by decide +kernel
theorem dX4_says_190 : decode cX4_says 190 = .ok (.goto 4, 3) := by decide +kernel
theorem dX4_says_193 : decode cX4_says 193 = .ok (.iconst 0, 1) := by decide +kernel
theorem dX4_says_194 : decode cX4_says 194 = .ok (.ireturn, 1) := by decide +kernel
theorem dX4_says_195 : decode cX4_says 195 = .ok (.aload_n 0, 1) := by decide +kernel
theorem dX4_says_196 : decode cX4_says 196 = .ok (.aload_n 3, 1) := by decide +kernel
theorem dX4_says_197 : decode cX4_says 197 = .ok (.iload_n 2, 1) := by decide +kernel
theorem dX4_says_198 : decode cX4_says 198 = .ok (.invokevirtual 192, 3) := by decide +kernel
theorem dX4_says_201 : decode cX4_says 201 = .ok (.ireturn, 1) := by decide +kernel
theorem dX4_says_202 : decode cX4_says 202 = .ok (.aload_n 0, 1) := by decide +kernel
theorem dX4_says_203 : decode cX4_says 203 = .ok (.aload_n 3, 1) := by decide +kernel
theorem dX4_says_204 : decode cX4_says 204 = .ok (.iload_n 2, 1) := by decide +kernel
theorem dX4_says_205 : decode cX4_says 205 = .ok (.invokevirtual 196, 3) := by decide +kernel
theorem dX4_says_208 : decode cX4_says 208 = .ok (.ireturn, 1) := by decide +kernel
theorem dX4_says_209 : decode cX4_says 209 = .ok (.aload_n 0, 1) := by decide +kernel
theorem dX4_says_210 : decode cX4_says 210 = .ok (.aload_n 3, 1) := by decide +kernel
theorem dX4_says_211 : decode cX4_says 211 = .ok (.iload_n 2, 1) := by decide +kernel
theorem dX4_says_212 : decode cX4_says 212 = .ok (.invokevirtual 199, 3) := by decide +kernel
theorem dX4_says_215 : decode cX4_says 215 = .ok (.ireturn, 1) := by decide +kernel
theorem dX4_says_216 : decode cX4_says 216 = .ok (.aload_n 0, 1) := by decide +kernel
theorem dX4_says_217 : decode cX4_says 217 = .ok (.aload_n 3, 1) := by decide +kernel
end
section
theorem dX4_says_218 : decode cX4_says 218 = .ok (.iload_n 2, 1) := by decide +kernel
theorem dX4_says_219 : decode cX4_says 219 = .ok (.invokevirtual 202, 3) := by decide +kernel
theorem dX4_says_222 : decode cX4_says 222 = .ok (.ireturn, 1) := by decide +kernel
set_option maxRecDepth 20000 in
theorem ggX4_saysShare_X4_reading : GoodIn wsX4_saysShare wsX4_reading := goodIn_r _ [9, 10, 17, 18, 19, 20, 21, 22, 23, 24, 25, 26, 27, 28, 29, 30, 31, 32] (by decide +kernel) (by decide +kernel)
set_option maxRecDepth 20000 in
theorem gX4_saysShare_X4_reading : GoodIn wsX4_saysShare (wsV RX4 61 RX4 yX4_reading wsX4_reading) := goodIn_app (goodIn_of _ (by decide +kernel)) ggX4_saysShare_X4_reading
theorem dX4_saysShare_0 : decode cX4_saysShare 0 = .ok (.aload_n 0, 1) := by decide +kernel
theorem dX4_saysShare_1 : decode cX4_saysShare 1 = .ok (.aload_n 1, 1) := by decide +kernel
theorem dX4_saysShare_2 : decode cX4_saysShare 2 = .ok (.getfield 167, 3) := by decide +kernel
theorem dX4_saysShare_5 : decode cX4_saysShare 5 = .ok (.invokevirtual 61, 3) := by decide +kernel
theorem dX4_saysShare_8 : decode cX4_saysShare 8 = .ok (.i2l, 1) := by decide +kernel
theorem dX4_saysShare_9 : decode cX4_saysShare 9 = .ok (.lstore_n 2, 1) := by decide +kernel
theorem dX4_saysShare_10 : decode cX4_saysShare 10 = .ok (.aload_n 0, 1) := by decide +kernel
theorem dX4_saysShare_11 : decode cX4_saysShare 11 = .ok (.aload_n 1, 1) := by decide +kernel
theorem dX4_saysShare_12 : decode cX4_saysShare 12 = .ok (.getfield 170, 3) := by decide +kernel
theorem dX4_saysShare_15 : decode cX4_saysShare 15 = .ok (.invokevirtual 61, 3) := by decide +kernel
theorem dX4_saysShare_18 : decode cX4_saysShare 18 = .ok (.i2l, 1) := by decide +kernel
theorem dX4_saysShare_19 : decode cX4_saysShare 19 = .ok (.lstore 4, 2) := by decide +kernel
theorem dX4_saysShare_21 : decode cX4_saysShare 21 = .ok (.lload 4, 2) := by decide +kernel
theorem dX4_saysShare_23 : decode cX4_saysShare 23 = .ok (.lconst 0, 1) := by decide +kernel
theorem dX4_saysShare_24 : decode cX4_saysShare 24 = .ok (.lcmp, 1) := by decide +kernel
theorem dX4_saysShare_25 : decode cX4_saysShare 25 = .ok (.ifCond .ne 10, 3) := by decide +kernel
theorem dX4_saysShare_28 : decode cX4_saysShare 28 = .ok (.aload_n 0, 1) := by decide +kernel
theorem dX4_saysShare_29 : decode cX4_saysShare 29 = .ok (.iconst 1, 1) := by decide +kernel
theorem dX4_saysShare_30 : decode cX4_saysShare 30 = .ok (.putfield 105, 3) := by decide +kernel
theorem dX4_saysShare_33 : decode cX4_saysShare 33 = .ok (.iconst 0, 1) := by decide +kernel
theorem dX4_saysShare_34 : decode cX4_saysShare 34 = .ok (.ireturn, 1) := by decide +kernel
theorem dX4_saysShare_35 : decode cX4_saysShare 35 = .ok (.lload_n 2, 1) := by decide +kernel
theorem dX4_saysShare_36 : decode cX4_saysShare 36 = .ok (.lload 4, 2) := by decide +kernel
theorem dX4_saysShare_38 : decode cX4_saysShare 38 = .ok (.ldiv, 1) := by decide +kernel
theorem dX4_saysShare_39 : decode cX4_saysShare 39 = .ok (.aload_n 1, 1) := by decide +kernel
theorem dX4_saysShare_40 : decode cX4_saysShare 40 = .ok (.getfield 179, 3) := by decide +kernel
theorem dX4_saysShare_43 : decode cX4_saysShare 43 = .ok (.i2l, 1) := by decide +kernel
theorem dX4_saysShare_44 : decode cX4_saysShare 44 = .ok (.lcmp, 1) := by decide +kernel
theorem dX4_saysShare_45 : decode cX4_saysShare 45 = .ok (.ifCond .lt 7, 3) := by decide +kernel
theorem dX4_saysShare_48 : decode cX4_saysShare 48 = .ok (.iconst 1, 1) := by decide +kernel
theorem dX4_saysShare_49 : decode cX4_saysShare 49 = .ok (.goto 4, 3) := by decide +kernel
theorem dX4_saysShare_52 : decode cX4_saysShare 52 = .ok (.iconst 0, 1) := by decide +kernel
theorem dX4_saysShare_53 : decode cX4_saysShare 53 = .ok (.ireturn, 1) := by decide +kernel
set_option maxRecDepth 20000 in
theorem ggX4_saysPointed_X4_reading : GoodIn wsX4_saysPointed wsX4_reading := goodIn_r _ [8, 9, 19, 20, 21, 22, 23, 24, 25, 26, 27, 28, 29, 30, 31, 32, 33, 34] (by decide +kernel) (by decide +kernel)
set_option maxRecDepth 20000 in
theorem gX4_saysPointed_X4_reading : GoodIn wsX4_saysPointed (wsV RX4 61 RX4 yX4_reading wsX4_reading) := goodIn_app (goodIn_of _ (by decide +kernel)) ggX4_saysPointed_X4_reading
set_option maxRecDepth 20000 in
theorem ggX4_saysPointed_X4_isSensor : GoodIn wsX4_saysPointed wsX4_isSensor := goodIn_r _ [12] (by decide +kernel) (by decide +kernel)
set_option maxRecDepth 20000 in
theorem gX4_saysPointed_X4_isSensor : GoodIn wsX4_saysPointed (va_wsS RX4 53 yX4_isSensor wsX4_isSensor) := goodIn_app (goodIn_of _ (by decide +kernel)) ggX4_saysPointed_X4_isSensor
theorem dX4_saysPointed_0 : decode cX4_saysPointed 0 = .ok (.aload_n 0, 1) := by decide +kernel
theorem dX4_saysPointed_1 : decode cX4_saysPointed 1 = .ok (.aload_n 1, 1) := by decide +kernel
theorem dX4_saysPointed_2 : decode cX4_saysPointed 2 = .ok (.getfield 167, 3) := by decide +kernel
theorem dX4_saysPointed_5 : decode cX4_saysPointed 5 = .ok (.invokevirtual 61, 3) := by decide +kernel
theorem dX4_saysPointed_8 : decode cX4_saysPointed 8 = .ok (.istore_n 2, 1) := by decide +kernel
theorem dX4_saysPointed_9 : decode cX4_saysPointed 9 = .ok (.iload_n 2, 1) := by decide +kernel
theorem dX4_saysPointed_10 : decode cX4_saysPointed 10 = .ok (.invokestatic 53, 3) := by decide +kernel
theorem dX4_saysPointed_13 : decode cX4_saysPointed 13 = .ok (.ifCond .ne 10, 3) := by decide +kernel
theorem dX4_saysPointed_16 : decode cX4_saysPointed 16 = .ok (.aload_n 0, 1) := by decide +kernel
theorem dX4_saysPointed_17 : decode cX4_saysPointed 17 = .ok (.iconst 2, 1) := by decide +kernel
theorem dX4_saysPointed_18 : decode cX4_saysPointed 18 = .ok (.putfield 105, 3) := by decide +kernel
theorem dX4_saysPointed_21 : decode cX4_saysPointed 21 = .ok (.iconst 0, 1) := by decide +kernel
theorem dX4_saysPointed_22 : decode cX4_saysPointed 22 = .ok (.ireturn, 1) := by decide +kernel
theorem dX4_saysPointed_23 : decode cX4_saysPointed 23 = .ok (.aload_n 0, 1) := by decide +kernel
theorem dX4_saysPointed_24 : decode cX4_saysPointed 24 = .ok (.iload_n 2, 1) := by decide +kernel
theorem dX4_saysPointed_25 : decode cX4_saysPointed 25 = .ok (.invokevirtual 61, 3) := by decide +kernel
theorem dX4_saysPointed_28 : decode cX4_saysPointed 28 = .ok (.aload_n 1, 1) := by decide +kernel
theorem dX4_saysPointed_29 : decode cX4_saysPointed 29 = .ok (.getfield 170, 3) := by decide +kernel
theorem dX4_saysPointed_32 : decode cX4_saysPointed 32 = .ok (.if_icmp .le 7, 3) := by decide +kernel
theorem dX4_saysPointed_35 : decode cX4_saysPointed 35 = .ok (.iconst 1, 1) := by decide +kernel
theorem dX4_saysPointed_36 : decode cX4_saysPointed 36 = .ok (.goto 4, 3) := by decide +kernel
theorem dX4_saysPointed_39 : decode cX4_saysPointed 39 = .ok (.iconst 0, 1) := by decide +kernel
theorem dX4_saysPointed_40 : decode cX4_saysPointed 40 = .ok (.ireturn, 1) := by decide +kernel
set_option maxRecDepth 20000 in
theorem ggX4_saysBoth_X4_says : GoodIn wsX4_saysBoth wsX4_says := goodIn_r _ [8, 2, 9, 1, 3, 10, 11, 12, 13, 14, 15, 16, 17, 18, 7, 19, 20, 21, 22, 23, 24, 25, 26, 27, 28, 29, 30, 31, 32, 33, 34, 35, 36, 37, 38, 39, 40, 41, 42, 43, 4, 5, 6, 44, 45, 46, 47, 48, 49, 50, 51, 52, 53, 54, 55, 0, 56, 57, 58, 59, 60, 61, 62, 63, 64, 65, 66, 67, 68, 69, 70, 71, 72, 73, 74, 75, 76, 77, 78, 79, 80, 81, 82, 83, 84, 85] (by decide +kernel) (by decide +kernel)
set_option maxRecDepth 20000 in
theorem gX4_saysBoth_X4_says : GoodIn wsX4_saysBoth (wsV RX4 95 RX4 yX4_says wsX4_says) := goodIn_app (goodIn_of _ (by decide +kernel)) ggX4_saysBoth_X4_says
theorem dX4_saysBoth_0 : decode cX4_saysBoth 0 = .ok (.aload_n 0, 1) := by decide +kernel
theorem dX4_saysBoth_1 : decode cX4_saysBoth 1 = .ok (.aload_n 1, 1) := by decide +kernel
theorem dX4_saysBoth_2 : decode cX4_saysBoth 2 = .ok (.getfield 167, 3) := by decide +kernel
theorem dX4_saysBoth_5 : decode cX4_saysBoth 5 = .ok (.iload_n 2, 1) := by decide +kernel
theorem dX4_saysBoth_6 : decode cX4_saysBoth 6 = .ok (.iconst 1, 1) := by decide +kernel
theorem dX4_saysBoth_7 : decode cX4_saysBoth 7 = .ok (.iadd, 1) := by decide +kernel
theorem dX4_saysBoth_8 : decode cX4_saysBoth 8 = .ok (.invokevirtual 95, 3) := by decide +kernel
theorem dX4_saysBoth_11 : decode cX4_saysBoth 11 = .ok (.istore_n 3, 1) := by decide +kernel
theorem dX4_saysBoth_12 : decode cX4_saysBoth 12 = .ok (.aload_n 0, 1) := by decide +kernel
theorem dX4_saysBoth_13 : decode cX4_saysBoth 13 = .ok (.getfield 105, 3) := by decide +kernel
theorem dX4_saysBoth_16 : decode cX4_saysBoth 16 = .ok (.ifCond .ne 7, 3) := by decide +kernel
theorem dX4_saysBoth_19 : decode cX4_saysBoth 19 = .ok (.iload_n 3, 1) := by decide +kernel
theorem dX4_saysBoth_20 : decode cX4_saysBoth 20 = .ok (.ifCond .ne 5, 3) := by decide +kernel
theorem dX4_saysBoth_23 : decode cX4_saysBoth 23 = .ok (.iconst 0, 1) := by decide +kernel
theorem dX4_saysBoth_24 : decode cX4_saysBoth 24 = .ok (.ireturn, 1) := by decide +kernel
theorem dX4_saysBoth_25 : decode cX4_saysBoth 25 = .ok (.aload_n 0, 1) := by decide +kernel
theorem dX4_saysBoth_26 : decode cX4_saysBoth 26 = .ok (.aload_n 1, 1) := by decide +kernel
theorem dX4_saysBoth_27 : decode cX4_saysBoth 27 = .ok (.getfield 170, 3) := by decide +kernel
theorem dX4_saysBoth_30 : decode cX4_saysBoth 30 = .ok (.iload_n 2, 1) := by decide +kernel
theorem dX4_saysBoth_31 : decode cX4_saysBoth 31 = .ok (.iconst 1, 1) := by decide +kernel
theorem dX4_saysBoth_32 : decode cX4_saysBoth 32 = .ok (.iadd, 1) := by decide +kernel
theorem dX4_saysBoth_33 : decode cX4_saysBoth 33 = .ok (.invokevirtual 95, 3) := by decide +kernel
theorem dX4_saysBoth_36 : decode cX4_saysBoth 36 = .ok (.ireturn, 1) := by decide +kernel
set_option maxRecDepth 20000 in
theorem ggX4_saysEither_X4_says : GoodIn wsX4_saysEither wsX4_says := goodIn_r _ [8, 2, 9, 1, 3, 10, 11, 12, 13, 14, 15, 16, 17, 18, 7, 19, 20, 21, 22, 23, 24, 25, 26, 27, 28, 29, 30, 31, 32, 33, 34, 35, 36, 37, 38, 39, 40, 41, 42, 43, 4, 5, 6, 44, 45, 46, 47, 48, 49, 50, 51, 52, 53, 54, 55, 56, 0, 57, 58, 59, 60, 61, 62, 63, 64, 65, 66, 67, 68, 69, 70, 71, 72, 73, 74, 75, 76, 77, 78, 79, 80, 81, 82, 83, 84, 85] (by decide +kernel) (by decide +kernel)
set_option maxRecDepth 20000 in
theorem gX4_saysEither_X4_says : GoodIn wsX4_saysEither (wsV RX4 95 RX4 yX4_says wsX4_says) := goodIn_app (goodIn_of _ (by decide +kernel)) ggX4_saysEither_X4_says
theorem dX4_saysEither_0 : decode cX4_saysEither 0 = .ok (.aload_n 0, 1) := by decide +kernel
theorem dX4_saysEither_1 : decode cX4_saysEither 1 = .ok (.aload_n 1, 1) := by decide +kernel
theorem dX4_saysEither_2 : decode cX4_saysEither 2 = .ok (.getfield 167, 3) := by decide +kernel
theorem dX4_saysEither_5 : decode cX4_saysEither 5 = .ok (.iload_n 2, 1) := by decide +kernel
theorem dX4_saysEither_6 : decode cX4_saysEither 6 = .ok (.iconst 1, 1) := by decide +kernel
theorem dX4_saysEither_7 : decode cX4_saysEither 7 = .ok (.iadd, 1) := by decide +kernel
theorem dX4_saysEither_8 : decode cX4_saysEither 8 = .ok (.invokevirtual 95, 3) := by decide +kernel
theorem dX4_saysEither_11 : decode cX4_saysEither 11 = .ok (.istore_n 3, 1) := by decide +kernel
theorem dX4_saysEither_12 : decode cX4_saysEither 12 = .ok (.aload_n 0, 1) := by decide +kernel
theorem dX4_saysEither_13 : decode cX4_saysEither 13 = .ok (.getfield 105, 3) := by decide +kernel
theorem dX4_saysEither_16 : decode cX4_saysEither 16 = .ok (.ifCond .ne 7, 3) := by decide +kernel
theorem dX4_saysEither_19 : decode cX4_saysEither 19 = .ok (.iload_n 3, 1) := by decide +kernel
theorem dX4_saysEither_20 : decode cX4_saysEither 20 = .ok (.ifCond .eq 5, 3) := by decide +kernel
theorem dX4_saysEither_23 : decode cX4_saysEither 23 = .ok (.iload_n 3, 1) := by decide +kernel
theorem dX4_saysEither_24 : decode cX4_saysEither 24 = .ok (.ireturn, 1) := by decide +kernel
theorem dX4_saysEither_25 : decode cX4_saysEither 25 = .ok (.aload_n 0, 1) := by decide +kernel
theorem dX4_saysEither_26 : decode cX4_saysEither 26 = .ok (.aload_n 1, 1) := by decide +kernel
theorem dX4_saysEither_27 : decode cX4_saysEither 27 = .ok (.getfield 170, 3) := by decide +kernel
theorem dX4_saysEither_30 : decode cX4_saysEither 30 = .ok (.iload_n 2, 1) := by decide +kernel
theorem dX4_saysEither_31 : decode cX4_saysEither 31 = .ok (.iconst 1, 1) := by decide +kernel
theorem dX4_saysEither_32 : decode cX4_saysEither 32 = .ok (.iadd, 1) := by decide +kernel
theorem dX4_saysEither_33 : decode cX4_saysEither 33 = .ok (.invokevirtual 95, 3) := by decide +kernel
theorem dX4_saysEither_36 : decode cX4_saysEither 36 = .ok (.ireturn, 1) := by decide +kernel
set_option maxRecDepth 20000 in
theorem ggX4_saysOften_X4_says : GoodIn wsX4_saysOften wsX4_says := goodIn_r _ [9, 2, 10, 1, 4, 11, 12, 13, 14, 15, 16, 17, 18, 19, 8, 20, 21, 22, 23, 24, 25, 26, 27, 28, 29, 30, 31, 32, 33, 34, 35, 36, 37, 38, 39, 40, 41, 42, 43, 44, 5, 6, 7, 45, 46, 47, 48, 49, 50, 51, 52, 53, 54, 55, 56, 57, 58, 59, 60, 61, 62, 63, 0, 3, 64, 65, 66, 67, 68, 69, 70, 71, 72, 73, 74, 75, 76, 77, 78, 79, 80, 81, 82, 83, 84, 85] (by decide +kernel) (by decide +kernel)
set_option maxRecDepth 20000 in
theorem gX4_saysOften_X4_says : GoodIn wsX4_saysOften (wsV RX4 95 RX4 yX4_says wsX4_says) := goodIn_app (goodIn_of _ (by decide +kernel)) ggX4_saysOften_X4_says
theorem dX4_saysOften_0 : decode cX4_saysOften 0 = .ok (.aload_n 0, 1) := by decide +kernel
theorem dX4_saysOften_1 : decode cX4_saysOften 1 = .ok (.aload_n 1, 1) := by decide +kernel
theorem dX4_saysOften_2 : decode cX4_saysOften 2 = .ok (.getfield 167, 3) := by decide +kernel
theorem dX4_saysOften_5 : decode cX4_saysOften 5 = .ok (.iload_n 2, 1) := by decide +kernel
theorem dX4_saysOften_6 : decode cX4_saysOften 6 = .ok (.iconst 1, 1) := by decide +kernel
theorem dX4_saysOften_7 : decode cX4_saysOften 7 = .ok (.iadd, 1) := by decide +kernel
theorem dX4_saysOften_8 : decode cX4_saysOften 8 = .ok (.invokevirtual 95, 3) := by decide +kernel
theorem dX4_saysOften_11 : decode cX4_saysOften 11 = .ok (.istore_n 3, 1) := by decide +kernel
theorem dX4_saysOften_12 : decode cX4_saysOften 12 = .ok (.aload_n 0, 1) := by decide +kernel
theorem dX4_saysOften_13 : decode cX4_saysOften 13 = .ok (.getfield 105, 3) := by decide +kernel
theorem dX4_saysOften_16 : decode cX4_saysOften 16 = .ok (.ifCond .ne 17, 3) := by decide +kernel
theorem dX4_saysOften_19 : decode cX4_saysOften 19 = .ok (.iload_n 3, 1) := by decide +kernel
theorem dX4_saysOften_20 : decode cX4_saysOften 20 = .ok (.ifCond .eq 13, 3) := by decide +kernel
theorem dX4_saysOften_23 : decode cX4_saysOften 23 = .ok (.aload_n 1, 1) := by decide +kernel
theorem dX4_saysOften_24 : decode cX4_saysOften 24 = .ok (.dup, 1) := by decide +kernel
theorem dX4_saysOften_25 : decode cX4_saysOften 25 = .ok (.getfield 205, 3) := by decide +kernel
theorem dX4_saysOften_28 : decode cX4_saysOften 28 = .ok (.iconst 1, 1) := by decide +kernel
theorem dX4_saysOften_29 : decode cX4_saysOften 29 = .ok (.iadd, 1) := by decide +kernel
theorem dX4_saysOften_30 : decode cX4_saysOften 30 = .ok (.putfield 205, 3) := by decide +kernel
theorem dX4_saysOften_33 : decode cX4_saysOften 33 = .ok (.aload_n 1, 1) := by decide +kernel
theorem dX4_saysOften_34 : decode cX4_saysOften 34 = .ok (.getfield 205, 3) := by decide +kernel
theorem dX4_saysOften_37 : decode cX4_saysOften 37 = .ok (.aload_n 1, 1) := by decide +kernel
theorem dX4_saysOften_38 : decode cX4_saysOften 38 = .ok (.getfield 170, 3) := by decide +kernel
theorem dX4_saysOften_41 : decode cX4_saysOften 41 = .ok (.if_icmp .lt 7, 3) := by decide +kernel
theorem dX4_saysOften_44 : decode cX4_saysOften 44 = .ok (.iconst 1, 1) := by decide +kernel
theorem dX4_saysOften_45 : decode cX4_saysOften 45 = .ok (.goto 4, 3) := by decide +kernel
theorem dX4_saysOften_48 : decode cX4_saysOften 48 = .ok (.iconst 0, 1) := by decide +kernel
theorem dX4_saysOften_49 : decode cX4_saysOften 49 = .ok (.ireturn, 1) := by decide +kernel
set_option maxRecDepth 20000 in
theorem ggX4_saysElse_X4_says : GoodIn wsX4_saysElse wsX4_says := goodIn_r _ [12, 2, 13, 1, 3, 14, 15, 16, 17, 18, 19, 20, 21, 22, 7, 23, 24, 25, 26, 27, 28, 29, 30, 31, 32, 33, 34, 35, 36, 37, 38, 39, 40, 41, 42, 43, 44, 45, 46, 47, 4, 5, 6, 48, 49, 50, 51, 52, 53, 54, 55, 56, 57, 58, 59, 60, 61, 0, 8, 9, 10, 11, 62, 63, 64, 65, 66, 67, 68, 69, 70, 71, 72, 73, 74, 75, 76, 77, 78, 79, 80, 81, 82, 83, 84, 85] (by decide +kernel) (by decide +kernel)
set_option maxRecDepth 20000 in
theorem gX4_saysElse_X4_says : GoodIn wsX4_saysElse (wsV RX4 95 RX4 yX4_says wsX4_says) := goodIn_app (goodIn_of _ (by decide +kernel)) ggX4_saysElse_X4_says
set_option maxRecDepth 20000 in
theorem ggX4_saysElse_X4_canBeCaught : GoodIn wsX4_saysElse wsX4_canBeCaught := goodIn_r _ [11, 2, 64, 65, 66, 67, 68, 69, 70, 71, 72, 73, 74, 75, 76, 77, 78, 79] (by decide +kernel) (by decide +kernel)
set_option maxRecDepth 20000 in
theorem gX4_saysElse_X4_canBeCaught : GoodIn wsX4_saysElse (wsV RX4 208 RX4 yX4_canBeCaught wsX4_canBeCaught) := goodIn_app (goodIn_of _ (by decide +kernel)) ggX4_saysElse_X4_canBeCaught
theorem dX4_saysElse_0 : decode cX4_saysElse 0 = .ok (.aload_n 0, 1) := by decide +kernel
theorem dX4_saysElse_1 : decode cX4_saysElse 1 = .ok (.aload_n 1, 1) := by decide +kernel
theorem dX4_saysElse_2 : decode cX4_saysElse 2 = .ok (.getfield 167, 3) := by decide +kernel
theorem dX4_saysElse_5 : decode cX4_saysElse 5 = .ok (.iload_n 2, 1) := by decide +kernel
theorem dX4_saysElse_6 : decode cX4_saysElse 6 = .ok (.iconst 1, 1) := by decide +kernel
theorem dX4_saysElse_7 : decode cX4_saysElse 7 = .ok (.iadd, 1) := by decide +kernel
theorem dX4_saysElse_8 : decode cX4_saysElse 8 = .ok (.invokevirtual 95, 3) := by decide +kernel
theorem dX4_saysElse_11 : decode cX4_saysElse 11 = .ok (.istore_n 3, 1) := by decide +kernel
theorem dX4_saysElse_12 : decode cX4_saysElse 12 = .ok (.aload_n 0, 1) := by decide +kernel
theorem dX4_saysElse_13 : decode cX4_saysElse 13 = .ok (.invokevirtual 208, 3) := by decide +kernel
theorem dX4_saysElse_16 : decode cX4_saysElse 16 = .ok (.ifCond .ne 5, 3) := by decide +kernel
theorem dX4_saysElse_19 : decode cX4_saysElse 19 = .ok (.iload_n 3, 1) := by decide +kernel
theorem dX4_saysElse_20 : decode cX4_saysElse 20 = .ok (.ireturn, 1) := by decide +kernel
theorem dX4_saysElse_21 : decode cX4_saysElse 21 = .ok (.aload_n 0, 1) := by decide +kernel
theorem dX4_saysElse_22 : decode cX4_saysElse 22 = .ok (.iconst 0, 1) := by decide +kernel
theorem dX4_saysElse_23 : decode cX4_saysElse 23 = .ok (.putfield 105, 3) := by decide +kernel
theorem dX4_saysElse_26 : decode cX4_saysElse 26 = .ok (.aload_n 0, 1) := by decide +kernel
theorem dX4_saysElse_27 : decode cX4_saysElse 27 = .ok (.aload_n 1, 1) := by decide +kernel
theorem dX4_saysElse_28 : decode cX4_saysElse 28 = .ok (.getfield 170, 3) := by decide +kernel
theorem dX4_saysElse_31 : decode cX4_saysElse 31 = .ok (.iload_n 2, 1) := by decide +kernel
theorem dX4_saysElse_32 : decode cX4_saysElse 32 = .ok (.iconst 1, 1) := by decide +kernel
theorem dX4_saysElse_33 : decode cX4_saysElse 33 = .ok (.iadd, 1) := by decide +kernel
theorem dX4_saysElse_34 : decode cX4_saysElse 34 = .ok (.invokevirtual 95, 3) := by decide +kernel
theorem dX4_saysElse_37 : decode cX4_saysElse 37 = .ok (.ireturn, 1) := by decide +kernel
set_option maxRecDepth 20000 in
theorem ggX4_does_X4_begins : GoodIn wsX4_does wsX4_begins := goodIn_r _ [8, 9, 1, 10, 136, 137, 138, 139, 140, 141, 142, 143, 144, 145, 146, 147, 148, 149, 150, 151] (by decide +kernel) (by decide +kernel)
set_option maxRecDepth 20000 in
theorem gX4_does_X4_begins : GoodIn wsX4_does (wsV RX4 160 RX4 yX4_begins wsX4_begins) := goodIn_app (goodIn_of _ (by decide +kernel)) ggX4_does_X4_begins
set_option maxRecDepth 20000 in
theorem ggX4_does_X4_actAt : GoodIn wsX4_does wsX4_actAt := goodIn_r _ [14, 15, 16, 136, 137, 138, 139, 140, 141, 142, 143, 144, 145, 146, 147, 148, 149, 150, 151] (by decide +kernel) (by decide +kernel)
set_option maxRecDepth 20000 in
theorem gX4_does_X4_actAt : GoodIn wsX4_does (wsV RX4 121 RX4 yX4_actAt wsX4_actAt) := goodIn_app (goodIn_of _ (by decide +kernel)) ggX4_does_X4_actAt
set_option maxRecDepth 20000 in
theorem ggX4_does_X4_doesPour : GoodIn wsX4_does wsX4_doesPour := goodIn_r _ [20, 3, 21, 22, 23, 24, 7, 25, 26, 1, 27, 28, 29, 152, 153, 154, 155, 136, 137, 138, 139, 140, 141, 142, 143, 144, 145, 146, 147, 148, 149, 150, 151] (by decide +kernel) (by decide +kernel)
set_option maxRecDepth 20000 in
theorem gX4_does_X4_doesPour : GoodIn wsX4_does (wsV RX4 212 RX4 yX4_doesPour wsX4_doesPour) := goodIn_app (goodIn_of _ (by decide +kernel)) ggX4_does_X4_doesPour
set_option maxRecDepth 20000 in
theorem ggX4_does_X4_doesMove : GoodIn wsX4_does wsX4_doesMove := goodIn_r _ [33, 21, 3, 34, 26, 27, 28, 7, 29, 22, 23, 24, 25, 1, 152, 153, 154, 155, 136, 137, 138, 139, 140, 141, 142, 143, 144, 145, 146, 147, 148, 149, 150, 151] (by decide +kernel) (by decide +kernel)
set_option maxRecDepth 20000 in
theorem gX4_does_X4_doesMove : GoodIn wsX4_does (wsV RX4 216 RX4 yX4_doesMove wsX4_doesMove) := goodIn_app (goodIn_of _ (by decide +kernel)) ggX4_does_X4_doesMove
set_option maxRecDepth 20000 in
theorem ggX4_does_X4_doesWhen : GoodIn wsX4_does wsX4_doesWhen := goodIn_r _ [87, 3, 1, 21, 34, 88, 89, 90, 7, 91, 92, 93, 94, 95, 96, 97, 98, 99, 100, 4, 5, 6, 8, 9, 10, 101, 102, 103, 104, 105, 106, 107, 108, 109, 110, 68, 111, 112, 113, 114, 115, 116, 117, 118, 69, 70, 71, 119, 120, 121, 122, 123, 124, 125, 126, 127, 128, 129, 130, 131, 132, 133, 83, 84, 85, 86, 134, 135, 61, 62, 63, 0, 2, 11, 12, 13, 14, 15, 16, 17, 18, 19, 20, 22, 23, 24, 25, 26, 27, 28, 29, 30, 31, 32, 33, 35, 36, 37, 38, 39, 40, 41, 42, 43, 44, 45, 46, 47, 48, 49, 50, 51, 52, 53, 54, 55, 56, 57, 58, 59, 60, 64, 65, 66, 67, 72, 73, 74, 75, 76, 77, 78, 79, 80, 81, 82, 136, 137, 138, 139, 140, 141, 142, 143, 144, 145, 146, 147, 148, 149, 150, 151, 152, 153, 154, 155, 156, 157, 158, 159, 160, 161, 162, 163, 164] (by decide +kernel) (by decide +kernel)
set_option maxRecDepth 20000 in
theorem gX4_does_X4_doesWhen : GoodIn wsX4_does (wsV RX4 219 RX4 yX4_doesWhen wsX4_doesWhen) := goodIn_app (goodIn_of _ (by decide +kernel)) ggX4_does_X4_doesWhen
set_option maxRecDepth 20000 in
theorem ggX4_does_X4_doesThen : GoodIn wsX4_does wsX4_doesThen := goodIn_r _ [72, 3, 1, 21, 61, 62, 63, 7, 0, 2, 4, 5, 6, 8, 9, 10, 11, 12, 13, 14, 15, 16, 17, 18, 19, 20, 22, 23, 24, 25, 26, 27, 28, 29, 30, 31, 32, 33, 34, 35, 36, 37, 38, 39, 40, 41, 42, 43, 44, 45, 46, 47, 48, 49, 50, 51, 52, 53, 54, 55, 56, 57, 58, 59, 60, 64, 65, 66, 67, 68, 69, 70, 71, 73, 74, 75, 76, 77, 78, 79, 80, 81, 82, 83, 84, 85, 86, 87, 88, 89, 90, 91, 92, 93, 94, 95, 96, 97, 98, 99, 100, 101, 102, 103, 104, 105, 106, 107, 108, 109, 110, 111, 112, 113, 114, 115, 116, 117, 118, 119, 120, 121, 122, 123, 124, 125, 126, 127, 128, 129, 130, 131, 132, 133, 134, 135, 136, 137, 138, 139, 140, 141, 142, 143, 144, 145, 146, 147, 148, 149, 150, 151, 152, 153, 154, 155, 156, 157, 158, 159, 160, 161, 162, 163, 164] (by decide +kernel) (by decide +kernel)
set_option maxRecDepth 20000 in
theorem gX4_does_X4_doesThen : GoodIn wsX4_does (wsV RX4 223 RX4 yX4_doesThen wsX4_doesThen) := goodIn_app (goodIn_of _ (by decide +kernel)) ggX4_does_X4_doesThen
set_option maxRecDepth 20000 in
theorem ggX4_does_X4_doesTimes : GoodIn wsX4_does wsX4_doesTimes := goodIn_r _ [73, 21, 1, 3, 61, 62, 63, 7, 0, 2, 4, 5, 6, 8, 9, 10, 11, 12, 13, 14, 15, 16, 17, 18, 19, 20, 22, 23, 24, 25, 26, 27, 28, 29, 30, 31, 32, 33, 34, 35, 36, 37, 38, 39, 40, 41, 42, 43, 44, 45, 46, 47, 48, 49, 50, 51, 52, 53, 54, 55, 56, 57, 58, 59, 60, 64, 65, 66, 67, 68, 69, 70, 71, 72, 74, 75, 76, 77, 78, 79, 80, 81, 82, 83, 84, 85, 86, 87, 88, 89, 90, 91, 92, 93, 94, 95, 96, 97, 98, 99, 100, 101, 102, 103, 104, 105, 106, 107, 108, 109, 110, 111, 112, 113, 114, 115, 116, 117, 118, 119, 120, 121, 122, 123, 124, 125, 126, 127, 128, 129, 130, 131, 132, 133, 134, 135, 136, 137, 138, 139, 140, 141, 142, 143, 144, 145, 146, 147, 148, 149, 150, 151, 152, 153, 154, 155, 156, 157, 158, 159, 160, 161, 162, 163, 164] (by decide +kernel) (by decide +kernel)
set_option maxRecDepth 20000 in
theorem gX4_does_X4_doesTimes : GoodIn wsX4_does (wsV RX4 226 RX4 yX4_doesTimes wsX4_doesTimes) := goodIn_app (goodIn_of _ (by decide +kernel)) ggX4_does_X4_doesTimes
set_option maxRecDepth 20000 in
theorem ggX4_does_X4_doesLater : GoodIn wsX4_does wsX4_doesLater := goodIn_r _ [47, 48, 3, 49, 21, 50, 51, 52, 53, 54, 55, 56, 57, 136, 137, 138, 139, 140, 141, 142, 143, 144, 145, 146, 147, 148, 149, 150, 151, 152, 153, 154, 155, 156, 157, 158] (by decide +kernel) (by decide +kernel)
set_option maxRecDepth 20000 in
theorem gX4_does_X4_doesLater : GoodIn wsX4_does (wsV RX4 229 RX4 yX4_doesLater wsX4_doesLater) := goodIn_app (goodIn_of _ (by decide +kernel)) ggX4_does_X4_doesLater
set_option maxRecDepth 20000 in
theorem ggX4_does_X4_doesTry : GoodIn wsX4_does wsX4_doesTry := goodIn_r _ [74, 75, 26, 76, 77, 78, 79, 3, 1, 21, 80, 81, 7, 82, 61, 62, 63, 83, 84, 85, 86, 0, 2, 4, 5, 6, 8, 9, 10, 11, 12, 13, 14, 15, 16, 17, 18, 19, 20, 22, 23, 24, 25, 27, 28, 29, 30, 31, 32, 33, 34, 35, 36, 37, 38, 39, 40, 41, 42, 43, 44, 45, 46, 47, 48, 49, 50, 51, 52, 53, 54, 55, 56, 57, 58, 59, 60, 64, 65, 66, 67, 68, 69, 70, 71, 72, 73, 87, 88, 89, 90, 91, 92, 93, 94, 95, 96, 97, 98, 99, 100, 101, 102, 103, 104, 105, 106, 107, 108, 109, 110, 111, 112, 113, 114, 115, 116, 117, 118, 119, 120, 121, 122, 123, 124, 125, 126, 127, 128, 129, 130, 131, 132, 133, 134, 135, 136, 137, 138, 139, 140, 141, 142, 143, 144, 145, 146, 147, 148, 149, 150, 151, 152, 153, 154, 155, 156, 157, 158, 159, 160, 161, 162, 163, 164] (by decide +kernel) (by decide +kernel)
set_option maxRecDepth 20000 in
theorem gX4_does_X4_doesTry : GoodIn wsX4_does (wsV RX4 232 RX4 yX4_doesTry wsX4_doesTry) := goodIn_app (goodIn_of _ (by decide +kernel)) ggX4_does_X4_doesTry
set_option maxRecDepth 20000 in
theorem ggX4_does_X4_does : GoodIn wsX4_does wsX4_does := goodIn_r _ [0, 1, 2, 3, 4, 5, 6, 7, 8, 9, 10, 11, 12, 13, 14, 15, 16, 17, 18, 19, 20, 21, 22, 23, 24, 25, 26, 27, 28, 29, 30, 31, 32, 33, 34, 35, 36, 37, 38, 39, 40, 41, 42, 43, 44, 45, 46, 47, 48, 49, 50, 51, 52, 53, 54, 55, 56, 57, 58, 59, 60, 61, 62, 63, 64, 65, 66, 67, 68, 69, 70, 71, 72, 73, 74, 75, 76, 77, 78, 79, 80, 81, 82, 83, 84, 85, 86, 87, 88, 89, 90, 91, 92, 93, 94, 95, 96, 97, 98, 99, 100, 101, 102, 103, 104, 105, 106, 107, 108, 109, 110, 111, 112, 113, 114, 115, 116, 117, 118, 119, 120, 121, 122, 123, 124, 125, 126, 127, 128, 129, 130, 131, 132, 133, 134, 135, 136, 137, 138, 139, 140, 141, 142, 143, 144, 145, 146, 147, 148, 149, 150, 151, 152, 153, 154, 155, 156, 157, 158, 159, 160, 161, 162, 163, 164] (by decide +kernel) (by decide +kernel)
set_option maxRecDepth 20000 in
theorem gX4_does_X4_does : GoodIn wsX4_does (wsV RX4 125 RX4 yX4_does wsX4_does) := goodIn_app (goodIn_of _ (by decide +kernel)) ggX4_does_X4_does
set_option maxRecDepth 20000 in
theorem ggX4_does_X4_doesShow : GoodIn wsX4_does wsX4_doesShow := goodIn_r _ [67, 3, 21, 68, 26, 69, 70, 7, 71, 27, 28, 29, 152, 153, 154, 155, 136, 137, 138, 139, 140, 141, 142, 143, 144, 145, 146, 147, 148, 149, 150, 151] (by decide +kernel) (by decide +kernel)
set_option maxRecDepth 20000 in
theorem gX4_does_X4_doesShow : GoodIn wsX4_does (wsV RX4 236 RX4 yX4_doesShow wsX4_doesShow) := goodIn_app (goodIn_of _ (by decide +kernel)) ggX4_does_X4_doesShow
theorem dX4_does_0 : decode cX4_does 0 = .ok (.aload_n 0, 1) := by decide +kernel
theorem dX4_does_1 : decode cX4_does 1 = .ok (.invokevirtual 160, 3) := by decide +kernel
theorem dX4_does_4 : decode cX4_does 4 = .ok (.ifCond .ne 5, 3) := by decide +kernel
theorem dX4_does_7 : decode cX4_does 7 = .ok (.iconst 0, 1) := by decide +kernel
theorem dX4_does_8 : decode cX4_does 8 = .ok (.ireturn, 1) := by decide +kernel
theorem dX4_does_9 : decode cX4_does 9 = .ok (.aload_n 0, 1) := by decide +kernel
theorem dX4_does_10 : decode cX4_does 10 = .ok (.iload_n 1, 1) := by decide +kernel
theorem dX4_does_11 : decode cX4_does 11 = .ok (.invokevirtual 121, 3) := by decide +kernel
theorem dX4_does_14 : decode cX4_does 14 = .ok (.astore_n 3, 1) := by decide +kernel
theorem dX4_does_15 : decode cX4_does 15 = .ok (.aload_n 3, 1) := by decide +kernel
theorem dX4_does_16 : decode cX4_does 16 = .ok (.ifnull 9, 3) := by decide +kernel
theorem dX4_does_19 : decode cX4_does 19 = .ok (.iload_n 2, 1) := by decide +kernel
theorem dX4_does_20 : decode cX4_does 20 = .ok (.bipush 40, 2) := by decide +kernel
theorem dX4_does_22 : decode cX4_does 22 = .ok (.if_icmp .lt 10, 3) := by decide +kernel
theorem dX4_does_25 : decode cX4_does 25 = .ok (.aload_n 0, 1) := by decide +kernel
theorem dX4_does_26 : decode cX4_does 26 = .ok (.iconst 4, 1) := by decide +kernel
theorem dX4_does_27 : decode cX4_does 27 = .ok (.putfield 105, 3) := by decide +kernel
theorem dX4_does_30 : decode cX4_does 30 = .ok (.iconst 0, 1) := by decide +kernel
theorem dX4_does_31 : decode cX4_does 31 = .ok (.ireturn, 1) := by decide +kernel
theorem dX4_does_32 : decode cX4_does 32 = .ok (.aload_n 3, 1) := by decide +kernel
theorem dX4_does_33 : decode cX4_does 33 = .ok (.getfield 211, 3) := by decide +kernel
theorem dX4_does_36 : decode cX4_does 36 = .ok (.tableswitch 106 0 7 #[48, 54, 60, 67, 74, 81, 87, 94], 48) := by decide +kernel
theorem dX4_does_84 : decode cX4_does 84 = .ok (.aload_n 0, 1) := by decide +kernel
theorem dX4_does_85 : decode cX4_does 85 = .ok (.aload_n 3, 1) := by decide +kernel
theorem dX4_does_86 : decode cX4_does 86 = .ok (.invokevirtual 212, 3) := by decide +kernel
theorem dX4_does_89 : decode cX4_does 89 = .ok (.ireturn, 1) := by decide +kernel
theorem dX4_does_90 : decode cX4_does 90 = .ok (.aload_n 0, 1) := by decide +kernel
theorem dX4_does_91 : decode cX4_does 91 = .ok (.aload_n 3, 1) := by decide +kernel
theorem dX4_does_92 : decode cX4_does 92 = .ok (.invokevirtual 216, 3) := by decide +kernel
theorem dX4_does_95 : decode cX4_does 95 = .ok (.ireturn, 1) := by decide +kernel
theorem dX4_does_96 : decode cX4_does 96 = .ok (.aload_n 0, 1) := by decide +kernel
theorem dX4_does_97 : decode cX4_does 97 = .ok (.aload_n 3, 1) := by decide +kernel
theorem dX4_does_98 : decode cX4_does 98 = .ok (.iload_n 2, 1) := by decide +kernel
theorem dX4_does_99 : decode cX4_does 99 = .ok (.invokevirtual 219, 3) := by decide +kernel
theorem dX4_does_102 : decode cX4_does 102 = .ok (.ireturn, 1) := by decide +kernel
theorem dX4_does_103 : decode cX4_does 103 = .ok (.aload_n 0, 1) := by decide +kernel
theorem dX4_does_104 : decode cX4_does 104 = .ok (.aload_n 3, 1) := by decide +kernel
theorem dX4_does_105 : decode cX4_does 105 = .ok (.iload_n 2, 1) := by decide +kernel
theorem dX4_does_106 : decode cX4_does 106 = .ok (.invokevirtual 223, 3) := by decide +kernel
theorem dX4_does_109 : decode cX4_does 109 = .ok (.ireturn, 1) := by decide +kernel
theorem dX4_does_110 : decode cX4_does 110 = .ok (.aload_n 0, 1) := by decide +kernel
theorem dX4_does_111 : decode cX4_does 111 = .ok (.aload_n 3, 1) := by decide +kernel
theorem dX4_does_112 : decode cX4_does 112 = .ok (.iload_n 2, 1) := by decide +kernel
theorem dX4_does_113 : decode cX4_does 113 = .ok (.invokevirtual 226, 3) := by decide +kernel
theorem dX4_does_116 : decode cX4_does 116 = .ok (.ireturn, 1) := by decide +kernel
theorem dX4_does_117 : decode cX4_does 117 = .ok (.aload_n 0, 1) := by decide +kernel
theorem dX4_does_118 : decode cX4_does 118 = .ok (.aload_n 3, 1) := by decide +kernel
theorem dX4_does_119 : decode cX4_does 119 = .ok (.invokevirtual 229, 3) := by decide +kernel
theorem dX4_does_122 : decode cX4_does 122 = .ok (.ireturn, 1) := by decide +kernel
theorem dX4_does_123 : decode cX4_does 123 = .ok (.aload_n 0, 1) := by decide +kernel
theorem dX4_does_124 : decode cX4_does 124 = .ok (.aload_n 3, 1) := by decide +kernel
theorem dX4_does_125 : decode cX4_does 125 = .ok (.iload_n 2, 1) := by decide +kernel
theorem dX4_does_126 : decode cX4_does 126 = .ok (.invokevirtual 232, 3) := by decide +kernel
theorem dX4_does_129 : decode cX4_does 129 = .ok (.ireturn, 1) := by decide +kernel
theorem dX4_does_130 : decode cX4_does 130 = .ok (.aload_n 0, 1) := by decide +kernel
theorem dX4_does_131 : decode cX4_does 131 = .ok (.aload_n 3, 1) := by decide +kernel
theorem dX4_does_132 : decode cX4_does 132 = .ok (.getfield 235, 3) := by decide +kernel
theorem dX4_does_135 : decode cX4_does 135 = .ok (.iload_n 2, 1) := by decide +kernel
theorem dX4_does_136 : decode cX4_does 136 = .ok (.iconst 1, 1) := by decide +kernel
theorem dX4_does_137 : decode cX4_does 137 = .ok (.iadd, 1) := by decide +kernel
theorem dX4_does_138 : decode cX4_does 138 = .ok (.invokevirtual 125, 3) := by decide +kernel
theorem dX4_does_141 : decode cX4_does 141 = .ok (.ireturn, 1) := by decide +kernel
theorem dX4_does_142 : decode cX4_does 142 = .ok (.aload_n 0, 1) := by decide +kernel
theorem dX4_does_143 : decode cX4_does 143 = .ok (.aload_n 3, 1) := by decide +kernel
theorem dX4_does_144 : decode cX4_does 144 = .ok (.invokevirtual 236, 3) := by decide +kernel
theorem dX4_does_147 : decode cX4_does 147 = .ok (.ireturn, 1) := by decide +kernel
set_option maxRecDepth 20000 in
theorem ggX4_doesPour_X4_takesOut : GoodIn wsX4_doesPour wsX4_takesOut := goodIn_r _ [7, 8, 9, 10, 11, 6, 12, 17, 18, 19, 20, 21, 22, 23, 24, 25, 26, 27, 28, 29, 30, 31, 32] (by decide +kernel) (by decide +kernel)
set_option maxRecDepth 20000 in
theorem gX4_doesPour_X4_takesOut : GoodIn wsX4_doesPour (wsV RX4 240 RX4 yX4_takesOut wsX4_takesOut) := goodIn_app (goodIn_of _ (by decide +kernel)) ggX4_doesPour_X4_takesOut
theorem dX4_doesPour_0 : decode cX4_doesPour 0 = .ok (.aload_n 0, 1) := by decide +kernel
theorem dX4_doesPour_1 : decode cX4_doesPour 1 = .ok (.aload_n 1, 1) := by decide +kernel
theorem dX4_doesPour_2 : decode cX4_doesPour 2 = .ok (.getfield 235, 3) := by decide +kernel
theorem dX4_doesPour_5 : decode cX4_doesPour 5 = .ok (.aload_n 1, 1) := by decide +kernel
theorem dX4_doesPour_6 : decode cX4_doesPour 6 = .ok (.getfield 239, 3) := by decide +kernel
theorem dX4_doesPour_9 : decode cX4_doesPour 9 = .ok (.invokevirtual 240, 3) := by decide +kernel
theorem dX4_doesPour_12 : decode cX4_doesPour 12 = .ok (.ifCond .eq 10, 3) := by decide +kernel
theorem dX4_doesPour_15 : decode cX4_doesPour 15 = .ok (.aload_n 1, 1) := by decide +kernel
theorem dX4_doesPour_16 : decode cX4_doesPour 16 = .ok (.getfield 239, 3) := by decide +kernel
theorem dX4_doesPour_19 : decode cX4_doesPour 19 = .ok (.goto 4, 3) := by decide +kernel
theorem dX4_doesPour_22 : decode cX4_doesPour 22 = .ok (.iconst 0, 1) := by decide +kernel
theorem dX4_doesPour_23 : decode cX4_doesPour 23 = .ok (.ireturn, 1) := by decide +kernel
set_option maxRecDepth 20000 in
theorem ggX4_doesMove_X4_isTank : GoodIn wsX4_doesMove wsX4_isTank := goodIn_r _ [8] (by decide +kernel) (by decide +kernel)
set_option maxRecDepth 20000 in
theorem gX4_doesMove_X4_isTank : GoodIn wsX4_doesMove (va_wsS RX4 65 yX4_isTank wsX4_isTank) := goodIn_app (goodIn_of _ (by decide +kernel)) ggX4_doesMove_X4_isTank
set_option maxRecDepth 20000 in
theorem ggX4_doesMove_X4_takesOut : GoodIn wsX4_doesMove wsX4_takesOut := goodIn_r _ [12, 4, 13, 5, 6, 7, 8, 18, 19, 20, 21, 22, 23, 24, 25, 26, 27, 28, 29, 30, 31, 32, 33] (by decide +kernel) (by decide +kernel)
set_option maxRecDepth 20000 in
theorem gX4_doesMove_X4_takesOut : GoodIn wsX4_doesMove (wsV RX4 240 RX4 yX4_takesOut wsX4_takesOut) := goodIn_app (goodIn_of _ (by decide +kernel)) ggX4_doesMove_X4_takesOut
theorem dX4_doesMove_0 : decode cX4_doesMove 0 = .ok (.aload_n 1, 1) := by decide +kernel
theorem dX4_doesMove_1 : decode cX4_doesMove 1 = .ok (.getfield 239, 3) := by decide +kernel
theorem dX4_doesMove_4 : decode cX4_doesMove 4 = .ok (.invokestatic 65, 3) := by decide +kernel
theorem dX4_doesMove_7 : decode cX4_doesMove 7 = .ok (.ifCond .eq 18, 3) := by decide +kernel
theorem dX4_doesMove_10 : decode cX4_doesMove 10 = .ok (.aload_n 0, 1) := by decide +kernel
theorem dX4_doesMove_11 : decode cX4_doesMove 11 = .ok (.aload_n 1, 1) := by decide +kernel
theorem dX4_doesMove_12 : decode cX4_doesMove 12 = .ok (.getfield 235, 3) := by decide +kernel
theorem dX4_doesMove_15 : decode cX4_doesMove 15 = .ok (.aload_n 1, 1) := by decide +kernel
theorem dX4_doesMove_16 : decode cX4_doesMove 16 = .ok (.getfield 243, 3) := by decide +kernel
theorem dX4_doesMove_19 : decode cX4_doesMove 19 = .ok (.invokevirtual 240, 3) := by decide +kernel
theorem dX4_doesMove_22 : decode cX4_doesMove 22 = .ok (.ifCond .ne 5, 3) := by decide +kernel
theorem dX4_doesMove_25 : decode cX4_doesMove 25 = .ok (.iconst 0, 1) := by decide +kernel
theorem dX4_doesMove_26 : decode cX4_doesMove 26 = .ok (.ireturn, 1) := by decide +kernel
theorem dX4_doesMove_27 : decode cX4_doesMove 27 = .ok (.aload_n 0, 1) := by decide +kernel
theorem dX4_doesMove_28 : decode cX4_doesMove 28 = .ok (.getfield 13, 3) := by decide +kernel
theorem dX4_doesMove_31 : decode cX4_doesMove 31 = .ok (.aload_n 1, 1) := by decide +kernel
theorem dX4_doesMove_32 : decode cX4_doesMove 32 = .ok (.getfield 239, 3) := by decide +kernel
theorem dX4_doesMove_35 : decode cX4_doesMove 35 = .ok (.dup2, 1) := by decide +kernel
theorem dX4_doesMove_36 : decode cX4_doesMove 36 = .ok (.iaload, 1) := by decide +kernel
theorem dX4_doesMove_37 : decode cX4_doesMove 37 = .ok (.aload_n 1, 1) := by decide +kernel
theorem dX4_doesMove_38 : decode cX4_doesMove 38 = .ok (.getfield 243, 3) := by decide +kernel
theorem dX4_doesMove_41 : decode cX4_doesMove 41 = .ok (.iadd, 1) := by decide +kernel
theorem dX4_doesMove_42 : decode cX4_doesMove 42 = .ok (.iastore, 1) := by decide +kernel
theorem dX4_doesMove_43 : decode cX4_doesMove 43 = .ok (.aload_n 1, 1) := by decide +kernel
theorem dX4_doesMove_44 : decode cX4_doesMove 44 = .ok (.getfield 243, 3) := by decide +kernel
theorem dX4_doesMove_47 : decode cX4_doesMove 47 = .ok (.ireturn, 1) := by decide +kernel
set_option maxRecDepth 20000 in
theorem ggX4_takesOut_X4_isTank : GoodIn wsX4_takesOut wsX4_isTank := goodIn_r _ [6] (by decide +kernel) (by decide +kernel)
set_option maxRecDepth 20000 in
theorem gX4_takesOut_X4_isTank : GoodIn wsX4_takesOut (va_wsS RX4 65 yX4_isTank wsX4_isTank) := goodIn_app (goodIn_of _ (by decide +kernel)) ggX4_takesOut_X4_isTank
theorem dX4_takesOut_0 : decode cX4_takesOut 0 = .ok (.iload_n 1, 1) := by decide +kernel
theorem dX4_takesOut_1 : decode cX4_takesOut 1 = .ok (.invokestatic 65, 3) := by decide +kernel
theorem dX4_takesOut_4 : decode cX4_takesOut 4 = .ok (.ifCond .eq 13, 3) := by decide +kernel
theorem dX4_takesOut_7 : decode cX4_takesOut 7 = .ok (.aload_n 0, 1) := by decide +kernel
theorem dX4_takesOut_8 : decode cX4_takesOut 8 = .ok (.getfield 13, 3) := by decide +kernel
theorem dX4_takesOut_11 : decode cX4_takesOut 11 = .ok (.iload_n 1, 1) := by decide +kernel
theorem dX4_takesOut_12 : decode cX4_takesOut 12 = .ok (.iaload, 1) := by decide +kernel
theorem dX4_takesOut_13 : decode cX4_takesOut 13 = .ok (.iload_n 2, 1) := by decide +kernel
theorem dX4_takesOut_14 : decode cX4_takesOut 14 = .ok (.if_icmp .ge 10, 3) := by decide +kernel
theorem dX4_takesOut_17 : decode cX4_takesOut 17 = .ok (.aload_n 0, 1) := by decide +kernel
theorem dX4_takesOut_18 : decode cX4_takesOut 18 = .ok (.iconst 3, 1) := by decide +kernel
theorem dX4_takesOut_19 : decode cX4_takesOut 19 = .ok (.putfield 105, 3) := by decide +kernel
theorem dX4_takesOut_22 : decode cX4_takesOut 22 = .ok (.iconst 0, 1) := by decide +kernel
theorem dX4_takesOut_23 : decode cX4_takesOut 23 = .ok (.ireturn, 1) := by decide +kernel
theorem dX4_takesOut_24 : decode cX4_takesOut 24 = .ok (.aload_n 0, 1) := by decide +kernel
theorem dX4_takesOut_25 : decode cX4_takesOut 25 = .ok (.getfield 13, 3) := by decide +kernel
theorem dX4_takesOut_28 : decode cX4_takesOut 28 = .ok (.iload_n 1, 1) := by decide +kernel
theorem dX4_takesOut_29 : decode cX4_takesOut 29 = .ok (.dup2, 1) := by decide +kernel
theorem dX4_takesOut_30 : decode cX4_takesOut 30 = .ok (.iaload, 1) := by decide +kernel
theorem dX4_takesOut_31 : decode cX4_takesOut 31 = .ok (.iload_n 2, 1) := by decide +kernel
theorem dX4_takesOut_32 : decode cX4_takesOut 32 = .ok (.isub, 1) := by decide +kernel
theorem dX4_takesOut_33 : decode cX4_takesOut 33 = .ok (.iastore, 1) := by decide +kernel
theorem dX4_takesOut_34 : decode cX4_takesOut 34 = .ok (.iconst 1, 1) := by decide +kernel
theorem dX4_takesOut_35 : decode cX4_takesOut 35 = .ok (.ireturn, 1) := by decide +kernel
set_option maxRecDepth 20000 in
theorem ggX4_doesWhen_X4_says : GoodIn wsX4_doesWhen wsX4_says := goodIn_r _ [9, 2, 10, 11, 12, 13, 14, 15, 16, 17, 18, 19, 20, 21, 8, 22, 23, 24, 25, 26, 27, 28, 29, 30, 31, 32, 33, 34, 35, 36, 37, 38, 39, 40, 41, 42, 43, 44, 45, 46, 5, 6, 7, 47, 48, 49, 50, 51, 52, 53, 54, 55, 56, 57, 58, 59, 60, 61, 62, 63, 64, 65, 66, 67, 136, 137, 138, 139, 140, 141, 142, 143, 144, 145, 146, 147, 148, 149, 150, 151, 159, 160, 161, 162, 163, 164] (by decide +kernel) (by decide +kernel)
set_option maxRecDepth 20000 in
theorem gX4_doesWhen_X4_says : GoodIn wsX4_doesWhen (wsV RX4 95 RX4 yX4_says wsX4_says) := goodIn_app (goodIn_of _ (by decide +kernel)) ggX4_doesWhen_X4_says
set_option maxRecDepth 20000 in
theorem ggX4_doesWhen_X4_does : GoodIn wsX4_doesWhen wsX4_does := goodIn_r _ [71, 2, 72, 1, 19, 20, 21, 8, 22, 23, 24, 73, 74, 75, 76, 77, 78, 79, 80, 81, 82, 3, 83, 84, 85, 86, 87, 88, 89, 90, 91, 92, 93, 94, 4, 95, 96, 97, 98, 99, 100, 101, 102, 103, 104, 105, 106, 107, 108, 109, 110, 111, 112, 113, 114, 115, 116, 117, 118, 119, 120, 68, 69, 70, 121, 122, 123, 124, 35, 44, 45, 46, 125, 126, 127, 128, 129, 130, 131, 132, 133, 134, 135, 62, 63, 64, 65, 0, 5, 6, 7, 9, 10, 11, 12, 13, 14, 15, 16, 17, 18, 25, 26, 27, 28, 29, 30, 31, 32, 33, 34, 36, 37, 38, 39, 40, 41, 42, 43, 47, 48, 49, 50, 51, 52, 53, 54, 55, 56, 57, 58, 59, 60, 61, 66, 67, 136, 137, 138, 139, 140, 141, 142, 143, 144, 145, 146, 147, 148, 149, 150, 151, 152, 153, 154, 155, 156, 157, 158, 159, 160, 161, 162, 163, 164] (by decide +kernel) (by decide +kernel)
set_option maxRecDepth 20000 in
theorem gX4_doesWhen_X4_does : GoodIn wsX4_doesWhen (wsV RX4 125 RX4 yX4_does wsX4_does) := goodIn_app (goodIn_of _ (by decide +kernel)) ggX4_doesWhen_X4_does
theorem dX4_doesWhen_0 : decode cX4_doesWhen 0 = .ok (.aload_n 0, 1) := by decide +kernel
theorem dX4_doesWhen_1 : decode cX4_doesWhen 1 = .ok (.aload_n 1, 1) := by decide +kernel
theorem dX4_doesWhen_2 : decode cX4_doesWhen 2 = .ok (.getfield 235, 3) := by decide +kernel
theorem dX4_doesWhen_5 : decode cX4_doesWhen 5 = .ok (.iconst 0, 1) := by decide +kernel
theorem dX4_doesWhen_6 : decode cX4_doesWhen 6 = .ok (.invokevirtual 95, 3) := by decide +kernel
theorem dX4_doesWhen_9 : decode cX4_doesWhen 9 = .ok (.istore_n 3, 1) := by decide +kernel
theorem dX4_doesWhen_10 : decode cX4_doesWhen 10 = .ok (.aload_n 0, 1) := by decide +kernel
theorem dX4_doesWhen_11 : decode cX4_doesWhen 11 = .ok (.getfield 105, 3) := by decide +kernel
theorem dX4_doesWhen_14 : decode cX4_doesWhen 14 = .ok (.ifCond .eq 5, 3) := by decide +kernel
theorem dX4_doesWhen_17 : decode cX4_doesWhen 17 = .ok (.iconst 0, 1) := by decide +kernel
theorem dX4_doesWhen_18 : decode cX4_doesWhen 18 = .ok (.ireturn, 1) := by decide +kernel
theorem dX4_doesWhen_19 : decode cX4_doesWhen 19 = .ok (.iload_n 3, 1) := by decide +kernel
theorem dX4_doesWhen_20 : decode cX4_doesWhen 20 = .ok (.ifCond .eq 10, 3) := by decide +kernel
theorem dX4_doesWhen_23 : decode cX4_doesWhen 23 = .ok (.aload_n 1, 1) := by decide +kernel
theorem dX4_doesWhen_24 : decode cX4_doesWhen 24 = .ok (.getfield 239, 3) := by decide +kernel
theorem dX4_doesWhen_27 : decode cX4_doesWhen 27 = .ok (.goto 7, 3) := by decide +kernel
theorem dX4_doesWhen_30 : decode cX4_doesWhen 30 = .ok (.aload_n 1, 1) := by decide +kernel
theorem dX4_doesWhen_31 : decode cX4_doesWhen 31 = .ok (.getfield 243, 3) := by decide +kernel
theorem dX4_doesWhen_34 : decode cX4_doesWhen 34 = .ok (.istore 4, 2) := by decide +kernel
theorem dX4_doesWhen_36 : decode cX4_doesWhen 36 = .ok (.iload 4, 2) := by decide +kernel
theorem dX4_doesWhen_38 : decode cX4_doesWhen 38 = .ok (.iconst (-1), 1) := by decide +kernel
theorem dX4_doesWhen_39 : decode cX4_doesWhen 39 = .ok (.if_icmp .ne 7, 3) := by decide +kernel
theorem dX4_doesWhen_42 : decode cX4_doesWhen 42 = .ok (.iconst 0, 1) := by decide +kernel
theorem dX4_doesWhen_43 : decode cX4_doesWhen 43 = .ok (.goto 12, 3) := by decide +kernel
theorem dX4_doesWhen_46 : decode cX4_doesWhen 46 = .ok (.aload_n 0, 1) := by decide +kernel
theorem dX4_doesWhen_47 : decode cX4_doesWhen 47 = .ok (.iload 4, 2) := by decide +kernel
theorem dX4_doesWhen_49 : decode cX4_doesWhen 49 = .ok (.iload_n 2, 1) := by decide +kernel
theorem dX4_doesWhen_50 : decode cX4_doesWhen 50 = .ok (.iconst 1, 1) := by decide +kernel
theorem dX4_doesWhen_51 : decode cX4_doesWhen 51 = .ok (.iadd, 1) := by decide +kernel
theorem dX4_doesWhen_52 : decode cX4_doesWhen 52 = .ok (.invokevirtual 125, 3) := by decide +kernel
theorem dX4_doesWhen_55 : decode cX4_doesWhen 55 = .ok (.ireturn, 1) := by decide +kernel
set_option maxRecDepth 20000 in
theorem ggX4_doesThen_X4_does : GoodIn wsX4_doesThen wsX4_does := goodIn_r _ [8, 2, 9, 1, 10, 11, 12, 7, 13, 14, 15, 16, 17, 18, 19, 20, 21, 22, 23, 24, 25, 3, 26, 27, 28, 29, 30, 31, 32, 33, 34, 35, 36, 37, 38, 39, 40, 41, 42, 43, 44, 45, 46, 47, 48, 49, 50, 51, 52, 53, 54, 55, 56, 57, 58, 59, 60, 61, 62, 63, 64, 4, 5, 6, 65, 66, 67, 68, 69, 70, 71, 72, 0, 73, 74, 75, 76, 77, 78, 79, 80, 81, 82, 83, 84, 85, 86, 87, 88, 89, 90, 91, 92, 93, 94, 95, 96, 97, 98, 99, 100, 101, 102, 103, 104, 105, 106, 107, 108, 109, 110, 111, 112, 113, 114, 115, 116, 117, 118, 119, 120, 121, 122, 123, 124, 125, 126, 127, 128, 129, 130, 131, 132, 133, 134, 135, 136, 137, 138, 139, 140, 141, 142, 143, 144, 145, 146, 147, 148, 149, 150, 151, 152, 153, 154, 155, 156, 157, 158, 159, 160, 161, 162, 163, 164] (by decide +kernel) (by decide +kernel)
set_option maxRecDepth 20000 in
theorem gX4_doesThen_X4_does : GoodIn wsX4_doesThen (wsV RX4 125 RX4 yX4_does wsX4_does) := goodIn_app (goodIn_of _ (by decide +kernel)) ggX4_doesThen_X4_does
theorem dX4_doesThen_0 : decode cX4_doesThen 0 = .ok (.aload_n 0, 1) := by decide +kernel
theorem dX4_doesThen_1 : decode cX4_doesThen 1 = .ok (.aload_n 1, 1) := by decide +kernel
theorem dX4_doesThen_2 : decode cX4_doesThen 2 = .ok (.getfield 235, 3) := by decide +kernel
theorem dX4_doesThen_5 : decode cX4_doesThen 5 = .ok (.iload_n 2, 1) := by decide +kernel
theorem dX4_doesThen_6 : decode cX4_doesThen 6 = .ok (.iconst 1, 1) := by decide +kernel
theorem dX4_doesThen_7 : decode cX4_doesThen 7 = .ok (.iadd, 1) := by decide +kernel
theorem dX4_doesThen_8 : decode cX4_doesThen 8 = .ok (.invokevirtual 125, 3) := by decide +kernel
theorem dX4_doesThen_11 : decode cX4_doesThen 11 = .ok (.istore_n 3, 1) := by decide +kernel
theorem dX4_doesThen_12 : decode cX4_doesThen 12 = .ok (.aload_n 0, 1) := by decide +kernel
theorem dX4_doesThen_13 : decode cX4_doesThen 13 = .ok (.getfield 105, 3) := by decide +kernel
theorem dX4_doesThen_16 : decode cX4_doesThen 16 = .ok (.ifCond .eq 5, 3) := by decide +kernel
theorem dX4_doesThen_19 : decode cX4_doesThen 19 = .ok (.iconst 0, 1) := by decide +kernel
theorem dX4_doesThen_20 : decode cX4_doesThen 20 = .ok (.ireturn, 1) := by decide +kernel
theorem dX4_doesThen_21 : decode cX4_doesThen 21 = .ok (.iload_n 3, 1) := by decide +kernel
theorem dX4_doesThen_22 : decode cX4_doesThen 22 = .ok (.aload_n 0, 1) := by decide +kernel
theorem dX4_doesThen_23 : decode cX4_doesThen 23 = .ok (.aload_n 1, 1) := by decide +kernel
theorem dX4_doesThen_24 : decode cX4_doesThen 24 = .ok (.getfield 239, 3) := by decide +kernel
theorem dX4_doesThen_27 : decode cX4_doesThen 27 = .ok (.iload_n 2, 1) := by decide +kernel
theorem dX4_doesThen_28 : decode cX4_doesThen 28 = .ok (.iconst 1, 1) := by decide +kernel
theorem dX4_doesThen_29 : decode cX4_doesThen 29 = .ok (.iadd, 1) := by decide +kernel
theorem dX4_doesThen_30 : decode cX4_doesThen 30 = .ok (.invokevirtual 125, 3) := by decide +kernel
theorem dX4_doesThen_33 : decode cX4_doesThen 33 = .ok (.iadd, 1) := by decide +kernel
theorem dX4_doesThen_34 : decode cX4_doesThen 34 = .ok (.ireturn, 1) := by decide +kernel
set_option maxRecDepth 20000 in
theorem ggX4_doesTimes_X4_does : GoodIn wsX4_doesTimes wsX4_does := goodIn_r _ [8, 2, 9, 3, 10, 11, 12, 7, 13, 14, 15, 16, 17, 18, 19, 20, 21, 22, 23, 24, 25, 1, 26, 27, 28, 29, 30, 31, 32, 33, 34, 35, 36, 37, 38, 39, 40, 41, 42, 43, 44, 45, 46, 47, 48, 49, 50, 51, 52, 53, 54, 55, 56, 57, 58, 59, 60, 61, 62, 63, 64, 4, 5, 6, 65, 66, 67, 68, 69, 70, 71, 72, 73, 0, 74, 75, 76, 77, 78, 79, 80, 81, 82, 83, 84, 85, 86, 87, 88, 89, 90, 91, 92, 93, 94, 95, 96, 97, 98, 99, 100, 101, 102, 103, 104, 105, 106, 107, 108, 109, 110, 111, 112, 113, 114, 115, 116, 117, 118, 119, 120, 121, 122, 123, 124, 125, 126, 127, 128, 129, 130, 131, 132, 133, 134, 135, 136, 137, 138, 139, 140, 141, 142, 143, 144, 145, 146, 147, 148, 149, 150, 151, 152, 153, 154, 155, 156, 157, 158, 159, 160, 161, 162, 163, 164] (by decide +kernel) (by decide +kernel)
set_option maxRecDepth 20000 in
theorem gX4_doesTimes_X4_does : GoodIn wsX4_doesTimes (wsV RX4 125 RX4 yX4_does wsX4_does) := goodIn_app (goodIn_of _ (by decide +kernel)) ggX4_doesTimes_X4_does
theorem dX4_doesTimes_0 : decode cX4_doesTimes 0 = .ok (.iconst 0, 1) := by decide +kernel
theorem dX4_doesTimes_1 : decode cX4_doesTimes 1 = .ok (.istore_n 3, 1) := by decide +kernel
theorem dX4_doesTimes_2 : decode cX4_doesTimes 2 = .ok (.iconst 0, 1) := by decide +kernel
theorem dX4_doesTimes_3 : decode cX4_doesTimes 3 = .ok (.istore 4, 2) := by decide +kernel
theorem dX4_doesTimes_5 : decode cX4_doesTimes 5 = .ok (.iload 4, 2) := by decide +kernel
theorem dX4_doesTimes_7 : decode cX4_doesTimes 7 = .ok (.aload_n 1, 1) := by decide +kernel
theorem dX4_doesTimes_8 : decode cX4_doesTimes 8 = .ok (.getfield 239, 3) := by decide +kernel
theorem dX4_doesTimes_11 : decode cX4_doesTimes 11 = .ok (.if_icmp .ge 30, 3) := by decide +kernel
theorem dX4_doesTimes_14 : decode cX4_doesTimes 14 = .ok (.aload_n 0, 1) := by decide +kernel
theorem dX4_doesTimes_15 : decode cX4_doesTimes 15 = .ok (.getfield 105, 3) := by decide +kernel
theorem dX4_doesTimes_18 : decode cX4_doesTimes 18 = .ok (.ifCond .ne 23, 3) := by decide +kernel
theorem dX4_doesTimes_21 : decode cX4_doesTimes 21 = .ok (.iload_n 3, 1) := by decide +kernel
theorem dX4_doesTimes_22 : decode cX4_doesTimes 22 = .ok (.aload_n 0, 1) := by decide +kernel
theorem dX4_doesTimes_23 : decode cX4_doesTimes 23 = .ok (.aload_n 1, 1) := by decide +kernel
theorem dX4_doesTimes_24 : decode cX4_doesTimes 24 = .ok (.getfield 235, 3) := by decide +kernel
theorem dX4_doesTimes_27 : decode cX4_doesTimes 27 = .ok (.iload_n 2, 1) := by decide +kernel
theorem dX4_doesTimes_28 : decode cX4_doesTimes 28 = .ok (.iconst 1, 1) := by decide +kernel
theorem dX4_doesTimes_29 : decode cX4_doesTimes 29 = .ok (.iadd, 1) := by decide +kernel
theorem dX4_doesTimes_30 : decode cX4_doesTimes 30 = .ok (.invokevirtual 125, 3) := by decide +kernel
theorem dX4_doesTimes_33 : decode cX4_doesTimes 33 = .ok (.iadd, 1) := by decide +kernel
theorem dX4_doesTimes_34 : decode cX4_doesTimes 34 = .ok (.istore_n 3, 1) := by decide +kernel
theorem dX4_doesTimes_35 : decode cX4_doesTimes 35 = .ok (.iinc 4 1, 3) := by decide +kernel
theorem dX4_doesTimes_38 : decode cX4_doesTimes 38 = .ok (.goto (-33), 3) := by decide +kernel
theorem dX4_doesTimes_41 : decode cX4_doesTimes 41 = .ok (.iload_n 3, 1) := by decide +kernel
theorem dX4_doesTimes_42 : decode cX4_doesTimes 42 = .ok (.ireturn, 1) := by decide +kernel
set_option maxRecDepth 20000 in
theorem ggX4_doesLater_X3_join : GoodIn wsX4_doesLater wsX3_join := goodIn_r _ [9, 10, 11, 12, 33, 34, 35] (by decide +kernel) (by decide +kernel)
set_option maxRecDepth 20000 in
theorem gX4_doesLater_X3_join : GoodIn wsX4_doesLater (wsV RX4 244 RX3 yX3_join wsX3_join) := goodIn_app (goodIn_of _ (by decide +kernel)) ggX4_doesLater_X3_join
theorem dX4_doesLater_0 : decode cX4_doesLater 0 = .ok (.aload_n 0, 1) := by decide +kernel
theorem dX4_doesLater_1 : decode cX4_doesLater 1 = .ok (.getfield 36, 3) := by decide +kernel
theorem dX4_doesLater_4 : decode cX4_doesLater 4 = .ok (.aload_n 1, 1) := by decide +kernel
theorem dX4_doesLater_5 : decode cX4_doesLater 5 = .ok (.getfield 235, 3) := by decide +kernel
theorem dX4_doesLater_8 : decode cX4_doesLater 8 = .ok (.aload_n 0, 1) := by decide +kernel
theorem dX4_doesLater_9 : decode cX4_doesLater 9 = .ok (.getfield 132, 3) := by decide +kernel
theorem dX4_doesLater_12 : decode cX4_doesLater 12 = .ok (.aload_n 1, 1) := by decide +kernel
theorem dX4_doesLater_13 : decode cX4_doesLater 13 = .ok (.getfield 239, 3) := by decide +kernel
theorem dX4_doesLater_16 : decode cX4_doesLater 16 = .ok (.iadd, 1) := by decide +kernel
theorem dX4_doesLater_17 : decode cX4_doesLater 17 = .ok (.invokevirtual 244, 3) := by decide +kernel
theorem dX4_doesLater_20 : decode cX4_doesLater 20 = .ok (.iconst 0, 1) := by decide +kernel
theorem dX4_doesLater_21 : decode cX4_doesLater 21 = .ok (.ireturn, 1) := by decide +kernel
set_option maxRecDepth 20000 in
theorem ggX4_doesTry_X4_isWithin : GoodIn wsX4_doesTry wsX4_isWithin := goodIn_r _ [13] (by decide +kernel) (by decide +kernel)
set_option maxRecDepth 20000 in
theorem gX4_doesTry_X4_isWithin : GoodIn wsX4_doesTry (va_wsS RX4 69 yX4_isWithin wsX4_isWithin) := goodIn_app (goodIn_of _ (by decide +kernel)) ggX4_doesTry_X4_isWithin
set_option maxRecDepth 20000 in
theorem ggX4_doesTry_X4_does : GoodIn wsX4_doesTry wsX4_does := goodIn_r _ [21, 8, 22, 7, 23, 24, 25, 12, 26, 27, 28, 29, 30, 31, 32, 33, 34, 35, 36, 37, 38, 9, 39, 40, 41, 42, 2, 43, 44, 45, 46, 47, 48, 49, 50, 51, 52, 53, 54, 55, 56, 57, 58, 59, 60, 61, 62, 63, 64, 65, 66, 67, 68, 69, 70, 71, 72, 73, 74, 75, 76, 14, 15, 16, 77, 78, 79, 80, 81, 82, 83, 84, 85, 86, 0, 1, 3, 4, 5, 6, 10, 11, 13, 17, 18, 19, 20, 87, 88, 89, 90, 91, 92, 93, 94, 95, 96, 97, 98, 99, 100, 101, 102, 103, 104, 105, 106, 107, 108, 109, 110, 111, 112, 113, 114, 115, 116, 117, 118, 119, 120, 121, 122, 123, 124, 125, 126, 127, 128, 129, 130, 131, 132, 133, 134, 135, 136, 137, 138, 139, 140, 141, 142, 143, 144, 145, 146, 147, 148, 149, 150, 151, 152, 153, 154, 155, 156, 157, 158, 159, 160, 161, 162, 163, 164] (by decide +kernel) (by decide +kernel)
set_option maxRecDepth 20000 in
theorem gX4_doesTry_X4_does : GoodIn wsX4_doesTry (wsV RX4 125 RX4 yX4_does wsX4_does) := goodIn_app (goodIn_of _ (by decide +kernel)) ggX4_doesTry_X4_does
set_option maxRecDepth 20000 in
theorem ggX4_doesTry_X4_canBeCaught : GoodIn wsX4_doesTry wsX4_canBeCaught := goodIn_r _ [20, 8, 136, 137, 138, 139, 140, 141, 142, 143, 144, 145, 146, 147, 148, 149, 150, 151] (by decide +kernel) (by decide +kernel)
set_option maxRecDepth 20000 in
theorem gX4_doesTry_X4_canBeCaught : GoodIn wsX4_doesTry (wsV RX4 208 RX4 yX4_canBeCaught wsX4_canBeCaught) := goodIn_app (goodIn_of _ (by decide +kernel)) ggX4_doesTry_X4_canBeCaught
theorem dX4_doesTry_0 : decode cX4_doesTry 0 = .ok (.iload_n 2, 1) := by decide +kernel
theorem dX4_doesTry_1 : decode cX4_doesTry 1 = .ok (.iconst 0, 1) := by decide +kernel
theorem dX4_doesTry_2 : decode cX4_doesTry 2 = .ok (.bipush 39, 2) := by decide +kernel
theorem dX4_doesTry_4 : decode cX4_doesTry 4 = .ok (.invokestatic 69, 3) := by decide +kernel
theorem dX4_doesTry_7 : decode cX4_doesTry 7 = .ok (.ifCond .ne 5, 3) := by decide +kernel
theorem dX4_doesTry_10 : decode cX4_doesTry 10 = .ok (.iconst 0, 1) := by decide +kernel
theorem dX4_doesTry_11 : decode cX4_doesTry 11 = .ok (.ireturn, 1) := by decide +kernel
theorem dX4_doesTry_12 : decode cX4_doesTry 12 = .ok (.aload_n 0, 1) := by decide +kernel
theorem dX4_doesTry_13 : decode cX4_doesTry 13 = .ok (.getfield 18, 3) := by decide +kernel
theorem dX4_doesTry_16 : decode cX4_doesTry 16 = .ok (.iload_n 2, 1) := by decide +kernel
theorem dX4_doesTry_17 : decode cX4_doesTry 17 = .ok (.aaload, 1) := by decide +kernel
theorem dX4_doesTry_18 : decode cX4_doesTry 18 = .ok (.astore_n 3, 1) := by decide +kernel
theorem dX4_doesTry_19 : decode cX4_doesTry 19 = .ok (.aload_n 0, 1) := by decide +kernel
theorem dX4_doesTry_20 : decode cX4_doesTry 20 = .ok (.getfield 13, 3) := by decide +kernel
theorem dX4_doesTry_23 : decode cX4_doesTry 23 = .ok (.iconst 0, 1) := by decide +kernel
theorem dX4_doesTry_24 : decode cX4_doesTry 24 = .ok (.aload_n 3, 1) := by decide +kernel
theorem dX4_doesTry_25 : decode cX4_doesTry 25 = .ok (.iconst 0, 1) := by decide +kernel
theorem dX4_doesTry_26 : decode cX4_doesTry 26 = .ok (.bipush 6, 2) := by decide +kernel
theorem dX4_doesTry_28 : decode cX4_doesTry 28 = .ok (.invokestatic 248, 3) := by decide +kernel
theorem dX4_doesTry_31 : decode cX4_doesTry 31 = .ok (.aload_n 0, 1) := by decide +kernel
theorem dX4_doesTry_32 : decode cX4_doesTry 32 = .ok (.aload_n 1, 1) := by decide +kernel
theorem dX4_doesTry_33 : decode cX4_doesTry 33 = .ok (.getfield 235, 3) := by decide +kernel
theorem dX4_doesTry_36 : decode cX4_doesTry 36 = .ok (.iload_n 2, 1) := by decide +kernel
theorem dX4_doesTry_37 : decode cX4_doesTry 37 = .ok (.iconst 1, 1) := by decide +kernel
theorem dX4_doesTry_38 : decode cX4_doesTry 38 = .ok (.iadd, 1) := by decide +kernel
theorem dX4_doesTry_39 : decode cX4_doesTry 39 = .ok (.invokevirtual 125, 3) := by decide +kernel
theorem dX4_doesTry_42 : decode cX4_doesTry 42 = .ok (.istore 4, 2) := by decide +kernel
theorem dX4_doesTry_44 : decode cX4_doesTry 44 = .ok (.aload_n 0, 1) := by decide +kernel
theorem dX4_doesTry_45 : decode cX4_doesTry 45 = .ok (.invokevirtual 208, 3) := by decide +kernel
theorem dX4_doesTry_48 : decode cX4_doesTry 48 = .ok (.ifCond .ne 6, 3) := by decide +kernel
theorem dX4_doesTry_51 : decode cX4_doesTry 51 = .ok (.iload 4, 2) := by decide +kernel
theorem dX4_doesTry_53 : decode cX4_doesTry 53 = .ok (.ireturn, 1) := by decide +kernel
theorem dX4_doesTry_54 : decode cX4_doesTry 54 = .ok (.aload_n 3, 1) := by decide +kernel
theorem dX4_doesTry_55 : decode cX4_doesTry 55 = .ok (.iconst 0, 1) := by decide +kernel
theorem dX4_doesTry_56 : decode cX4_doesTry 56 = .ok (.aload_n 0, 1) := by decide +kernel
theorem dX4_doesTry_57 : decode cX4_doesTry 57 = .ok (.getfield 13, 3) := by decide +kernel
theorem dX4_doesTry_60 : decode cX4_doesTry 60 = .ok (.iconst 0, 1) := by decide +kernel
theorem dX4_doesTry_61 : decode cX4_doesTry 61 = .ok (.bipush 6, 2) := by decide +kernel
theorem dX4_doesTry_63 : decode cX4_doesTry 63 = .ok (.invokestatic 248, 3) := by decide +kernel
theorem dX4_doesTry_66 : decode cX4_doesTry 66 = .ok (.aload_n 0, 1) := by decide +kernel
theorem dX4_doesTry_67 : decode cX4_doesTry 67 = .ok (.iconst 0, 1) := by decide +kernel
theorem dX4_doesTry_68 : decode cX4_doesTry 68 = .ok (.putfield 105, 3) := by decide +kernel
theorem dX4_doesTry_71 : decode cX4_doesTry 71 = .ok (.aload_n 0, 1) := by decide +kernel
theorem dX4_doesTry_72 : decode cX4_doesTry 72 = .ok (.aload_n 1, 1) := by decide +kernel
theorem dX4_doesTry_73 : decode cX4_doesTry 73 = .ok (.getfield 239, 3) := by decide +kernel
theorem dX4_doesTry_76 : decode cX4_doesTry 76 = .ok (.iload_n 2, 1) := by decide +kernel
theorem dX4_doesTry_77 : decode cX4_doesTry 77 = .ok (.iconst 1, 1) := by decide +kernel
theorem dX4_doesTry_78 : decode cX4_doesTry 78 = .ok (.iadd, 1) := by decide +kernel
theorem dX4_doesTry_79 : decode cX4_doesTry 79 = .ok (.invokevirtual 125, 3) := by decide +kernel
theorem dX4_doesTry_82 : decode cX4_doesTry 82 = .ok (.ireturn, 1) := by decide +kernel
set_option maxRecDepth 20000 in
theorem ggX4_doesShow_X4_isSensor : GoodIn wsX4_doesShow wsX4_isSensor := goodIn_r _ [8] (by decide +kernel) (by decide +kernel)
set_option maxRecDepth 20000 in
theorem gX4_doesShow_X4_isSensor : GoodIn wsX4_doesShow (va_wsS RX4 53 yX4_isSensor wsX4_isSensor) := goodIn_app (goodIn_of _ (by decide +kernel)) ggX4_doesShow_X4_isSensor
set_option maxRecDepth 20000 in
theorem ggX4_doesShow_X4_isTank : GoodIn wsX4_doesShow wsX4_isTank := goodIn_r _ [11] (by decide +kernel) (by decide +kernel)
set_option maxRecDepth 20000 in
theorem gX4_doesShow_X4_isTank : GoodIn wsX4_doesShow (va_wsS RX4 65 yX4_isTank wsX4_isTank) := goodIn_app (goodIn_of _ (by decide +kernel)) ggX4_doesShow_X4_isTank
theorem dX4_doesShow_0 : decode cX4_doesShow 0 = .ok (.aload_n 1, 1) := by decide +kernel
theorem dX4_doesShow_1 : decode cX4_doesShow 1 = .ok (.getfield 235, 3) := by decide +kernel
theorem dX4_doesShow_4 : decode cX4_doesShow 4 = .ok (.invokestatic 53, 3) := by decide +kernel
theorem dX4_doesShow_7 : decode cX4_doesShow 7 = .ok (.ifCond .eq 13, 3) := by decide +kernel
theorem dX4_doesShow_10 : decode cX4_doesShow 10 = .ok (.aload_n 1, 1) := by decide +kernel
theorem dX4_doesShow_11 : decode cX4_doesShow 11 = .ok (.getfield 239, 3) := by decide +kernel
theorem dX4_doesShow_14 : decode cX4_doesShow 14 = .ok (.invokestatic 65, 3) := by decide +kernel
theorem dX4_doesShow_17 : decode cX4_doesShow 17 = .ok (.ifCond .ne 5, 3) := by decide +kernel
theorem dX4_doesShow_20 : decode cX4_doesShow 20 = .ok (.iconst 0, 1) := by decide +kernel
theorem dX4_doesShow_21 : decode cX4_doesShow 21 = .ok (.ireturn, 1) := by decide +kernel
theorem dX4_doesShow_22 : decode cX4_doesShow 22 = .ok (.aload_n 0, 1) := by decide +kernel
theorem dX4_doesShow_23 : decode cX4_doesShow 23 = .ok (.getfield 9, 3) := by decide +kernel
theorem dX4_doesShow_26 : decode cX4_doesShow 26 = .ok (.aload_n 1, 1) := by decide +kernel
theorem dX4_doesShow_27 : decode cX4_doesShow 27 = .ok (.getfield 235, 3) := by decide +kernel
theorem dX4_doesShow_30 : decode cX4_doesShow 30 = .ok (.aload_n 0, 1) := by decide +kernel
theorem dX4_doesShow_31 : decode cX4_doesShow 31 = .ok (.getfield 13, 3) := by decide +kernel
theorem dX4_doesShow_34 : decode cX4_doesShow 34 = .ok (.aload_n 1, 1) := by decide +kernel
theorem dX4_doesShow_35 : decode cX4_doesShow 35 = .ok (.getfield 239, 3) := by decide +kernel
theorem dX4_doesShow_38 : decode cX4_doesShow 38 = .ok (.iaload, 1) := by decide +kernel
theorem dX4_doesShow_39 : decode cX4_doesShow 39 = .ok (.iastore, 1) := by decide +kernel
theorem dX4_doesShow_40 : decode cX4_doesShow 40 = .ok (.aload_n 0, 1) := by decide +kernel
theorem dX4_doesShow_41 : decode cX4_doesShow 41 = .ok (.getfield 13, 3) := by decide +kernel
theorem dX4_doesShow_44 : decode cX4_doesShow 44 = .ok (.aload_n 1, 1) := by decide +kernel
theorem dX4_doesShow_45 : decode cX4_doesShow 45 = .ok (.getfield 239, 3) := by decide +kernel
theorem dX4_doesShow_48 : decode cX4_doesShow 48 = .ok (.iaload, 1) := by decide +kernel
theorem dX4_doesShow_49 : decode cX4_doesShow 49 = .ok (.ireturn, 1) := by decide +kernel
set_option maxRecDepth 20000 in
theorem ggX4_doThoseDue_X3_takeFirstFor : GoodIn wsX4_doThoseDue wsX3_takeFirstFor := goodIn_r _ [8, 9, 10, 11, 12, 13, 14, 7, 15, 179, 180, 181] (by decide +kernel) (by decide +kernel)
set_option maxRecDepth 20000 in
theorem gX4_doThoseDue_X3_takeFirstFor : GoodIn wsX4_doThoseDue (wsV RX4 254 RX3 yX3_takeFirstFor wsX3_takeFirstFor) := goodIn_app (goodIn_of _ (by decide +kernel)) ggX4_doThoseDue_X3_takeFirstFor
set_option maxRecDepth 20000 in
theorem ggX4_doThoseDue_X4_doOneThatWaited : GoodIn wsX4_doThoseDue wsX4_doOneThatWaited := goodIn_r _ [20, 21, 22, 3, 23, 24, 25, 19, 26, 27, 28, 29, 30, 31, 32, 33, 34, 35, 36, 37, 1, 38, 39, 40, 41, 42, 43, 44, 45, 46, 47, 48, 49, 50, 51, 52, 53, 54, 55, 56, 57, 58, 59, 60, 61, 62, 63, 64, 65, 66, 67, 68, 69, 70, 71, 72, 73, 74, 2, 75, 76, 77, 7, 78, 9, 11, 10, 79, 80, 81, 82, 83, 84, 85, 86, 87, 88, 89, 90, 91, 92, 93, 94, 95, 96, 97, 98, 99, 100, 101, 102, 103, 104, 105, 106, 107, 108, 109, 110, 111, 112, 113, 114, 115, 116, 117, 118, 119, 120, 121, 122, 123, 124, 125, 126, 127, 128, 129, 130, 131, 132, 133, 134, 135, 136, 137, 138, 139, 140, 141, 142, 143, 144, 145, 146, 147, 148, 149, 150, 151, 152, 153, 154, 155, 156, 157, 158, 159, 160, 161, 162, 163, 164, 165, 166, 167, 168, 169, 170, 171, 172, 173, 174, 175, 176, 177, 178, 182, 183, 184, 185, 179, 180, 181, 186, 187, 188, 189, 190, 191, 192, 193, 194, 195] (by decide +kernel) (by decide +kernel)
set_option maxRecDepth 20000 in
theorem gX4_doThoseDue_X4_doOneThatWaited : GoodIn wsX4_doThoseDue (wsV RX4 257 RX4 yX4_doOneThatWaited wsX4_doOneThatWaited) := goodIn_app (goodIn_of _ (by decide +kernel)) ggX4_doThoseDue_X4_doOneThatWaited
theorem dX4_doThoseDue_0 : decode cX4_doThoseDue 0 = .ok (.iconst 0, 1) := by decide +kernel
theorem dX4_doThoseDue_1 : decode cX4_doThoseDue 1 = .ok (.istore_n 1, 1) := by decide +kernel
theorem dX4_doThoseDue_2 : decode cX4_doThoseDue 2 = .ok (.iload_n 1, 1) := by decide +kernel
theorem dX4_doThoseDue_3 : decode cX4_doThoseDue 3 = .ok (.bipush 100, 2) := by decide +kernel
theorem dX4_doThoseDue_5 : decode cX4_doThoseDue 5 = .ok (.if_icmp .ge 44, 3) := by decide +kernel
theorem dX4_doThoseDue_8 : decode cX4_doThoseDue 8 = .ok (.aload_n 0, 1) := by decide +kernel
theorem dX4_doThoseDue_9 : decode cX4_doThoseDue 9 = .ok (.getfield 89, 3) := by decide +kernel
theorem dX4_doThoseDue_12 : decode cX4_doThoseDue 12 = .ok (.sipush 20000, 3) := by decide +kernel
end
section
theorem dX4_doThoseDue_15 : decode cX4_doThoseDue 15 = .ok (.if_icmp .ge 34, 3) := by decide +kernel
theorem dX4_doThoseDue_18 : decode cX4_doThoseDue 18 = .ok (.aload_n 0, 1) := by decide +kernel
theorem dX4_doThoseDue_19 : decode cX4_doThoseDue 19 = .ok (.getfield 36, 3) := by decide +kernel
theorem dX4_doThoseDue_22 : decode cX4_doThoseDue 22 = .ok (.aload_n 0, 1) := by decide +kernel
theorem dX4_doThoseDue_23 : decode cX4_doThoseDue 23 = .ok (.getfield 132, 3) := by decide +kernel
theorem dX4_doThoseDue_26 : decode cX4_doThoseDue 26 = .ok (.invokevirtual 254, 3) := by decide +kernel
theorem dX4_doThoseDue_29 : decode cX4_doThoseDue 29 = .ok (.istore_n 2, 1) := by decide +kernel
theorem dX4_doThoseDue_30 : decode cX4_doThoseDue 30 = .ok (.iload_n 2, 1) := by decide +kernel
theorem dX4_doThoseDue_31 : decode cX4_doThoseDue 31 = .ok (.iconst (-1), 1) := by decide +kernel
theorem dX4_doThoseDue_32 : decode cX4_doThoseDue 32 = .ok (.if_icmp .ne 6, 3) := by decide +kernel
theorem dX4_doThoseDue_35 : decode cX4_doThoseDue 35 = .ok (.goto 14, 3) := by decide +kernel
theorem dX4_doThoseDue_38 : decode cX4_doThoseDue 38 = .ok (.aload_n 0, 1) := by decide +kernel
theorem dX4_doThoseDue_39 : decode cX4_doThoseDue 39 = .ok (.iload_n 2, 1) := by decide +kernel
theorem dX4_doThoseDue_40 : decode cX4_doThoseDue 40 = .ok (.invokevirtual 257, 3) := by decide +kernel
theorem dX4_doThoseDue_43 : decode cX4_doThoseDue 43 = .ok (.iinc 1 1, 3) := by decide +kernel
theorem dX4_doThoseDue_46 : decode cX4_doThoseDue 46 = .ok (.goto (-44), 3) := by decide +kernel
theorem dX4_doThoseDue_49 : decode cX4_doThoseDue 49 = .ok (.iload_n 1, 1) := by decide +kernel
theorem dX4_doThoseDue_50 : decode cX4_doThoseDue 50 = .ok (.ireturn, 1) := by decide +kernel
set_option maxRecDepth 20000 in
theorem ggX4_doOneThatWaited_X4_startWork : GoodIn wsX4_doOneThatWaited wsX4_startWork := goodIn_r _ [8, 9, 1, 151, 152, 153, 154, 155, 156, 157, 158, 159, 160, 161, 162, 163, 164, 165, 166] (by decide +kernel) (by decide +kernel)
set_option maxRecDepth 20000 in
theorem gX4_doOneThatWaited_X4_startWork : GoodIn wsX4_doOneThatWaited (wsV RX4 92 RX4 yX4_startWork wsX4_startWork) := goodIn_app (goodIn_of _ (by decide +kernel)) ggX4_doOneThatWaited_X4_startWork
set_option maxRecDepth 20000 in
theorem ggX4_doOneThatWaited_X4_does : GoodIn wsX4_doOneThatWaited wsX4_does := goodIn_r _ [13, 1, 14, 15, 16, 17, 18, 7, 19, 9, 20, 21, 22, 23, 24, 25, 26, 27, 28, 29, 30, 31, 32, 33, 34, 35, 36, 37, 38, 39, 40, 41, 42, 43, 44, 45, 46, 47, 48, 49, 50, 51, 52, 53, 54, 55, 56, 57, 58, 3, 59, 60, 61, 62, 63, 64, 65, 66, 67, 68, 69, 10, 11, 12, 70, 71, 72, 73, 74, 75, 76, 77, 78, 79, 80, 81, 82, 83, 84, 85, 86, 87, 88, 89, 90, 91, 92, 93, 94, 95, 96, 97, 98, 99, 100, 101, 102, 103, 104, 105, 106, 107, 108, 109, 110, 111, 112, 113, 114, 115, 116, 117, 118, 119, 120, 121, 122, 123, 124, 125, 126, 127, 128, 129, 130, 131, 132, 133, 134, 135, 136, 137, 138, 139, 140, 141, 151, 152, 153, 154, 155, 156, 157, 158, 159, 160, 161, 162, 163, 164, 165, 166, 167, 168, 169, 170, 171, 172, 173, 174, 175, 176, 177, 178, 179] (by decide +kernel) (by decide +kernel)
set_option maxRecDepth 20000 in
theorem gX4_doOneThatWaited_X4_does : GoodIn wsX4_doOneThatWaited (wsV RX4 125 RX4 yX4_does wsX4_does) := goodIn_app (goodIn_of _ (by decide +kernel)) ggX4_doOneThatWaited_X4_does
set_option maxRecDepth 20000 in
theorem ggX4_doOneThatWaited_X1_keep : GoodIn wsX4_doOneThatWaited wsX1_keep := goodIn_r _ [146, 147, 148, 149, 150, 180, 181, 182, 183] (by decide +kernel) (by decide +kernel)
set_option maxRecDepth 20000 in
theorem gX4_doOneThatWaited_X1_keep : GoodIn wsX4_doOneThatWaited (wsV RX4 261 RX1 yX1_keep wsX1_keep) := goodIn_app (goodIn_of _ (by decide +kernel)) ggX4_doOneThatWaited_X1_keep
theorem dX4_doOneThatWaited_0 : decode cX4_doOneThatWaited 0 = .ok (.aload_n 0, 1) := by decide +kernel
theorem dX4_doOneThatWaited_1 : decode cX4_doOneThatWaited 1 = .ok (.invokevirtual 92, 3) := by decide +kernel
theorem dX4_doOneThatWaited_4 : decode cX4_doOneThatWaited 4 = .ok (.aload_n 0, 1) := by decide +kernel
theorem dX4_doOneThatWaited_5 : decode cX4_doOneThatWaited 5 = .ok (.iload_n 1, 1) := by decide +kernel
theorem dX4_doOneThatWaited_6 : decode cX4_doOneThatWaited 6 = .ok (.iconst 0, 1) := by decide +kernel
theorem dX4_doOneThatWaited_7 : decode cX4_doOneThatWaited 7 = .ok (.invokevirtual 125, 3) := by decide +kernel
theorem dX4_doOneThatWaited_10 : decode cX4_doOneThatWaited 10 = .ok (.pop, 1) := by decide +kernel
theorem dX4_doOneThatWaited_11 : decode cX4_doOneThatWaited 11 = .ok (.aload_n 0, 1) := by decide +kernel
theorem dX4_doOneThatWaited_12 : decode cX4_doOneThatWaited 12 = .ok (.getfield 105, 3) := by decide +kernel
theorem dX4_doOneThatWaited_15 : decode cX4_doOneThatWaited 15 = .ok (.ifCond .eq 19, 3) := by decide +kernel
theorem dX4_doOneThatWaited_18 : decode cX4_doOneThatWaited 18 = .ok (.aload_n 0, 1) := by decide +kernel
theorem dX4_doOneThatWaited_19 : decode cX4_doOneThatWaited 19 = .ok (.getfield 43, 3) := by decide +kernel
theorem dX4_doOneThatWaited_22 : decode cX4_doOneThatWaited 22 = .ok (.iload_n 1, 1) := by decide +kernel
theorem dX4_doOneThatWaited_23 : decode cX4_doOneThatWaited 23 = .ok (.aload_n 0, 1) := by decide +kernel
theorem dX4_doOneThatWaited_24 : decode cX4_doOneThatWaited 24 = .ok (.getfield 105, 3) := by decide +kernel
theorem dX4_doOneThatWaited_27 : decode cX4_doOneThatWaited 27 = .ok (.aload_n 0, 1) := by decide +kernel
theorem dX4_doOneThatWaited_28 : decode cX4_doOneThatWaited 28 = .ok (.getfield 132, 3) := by decide +kernel
theorem dX4_doOneThatWaited_31 : decode cX4_doOneThatWaited 31 = .ok (.invokevirtual 261, 3) := by decide +kernel
theorem dX4_doOneThatWaited_34 : decode cX4_doOneThatWaited 34 = .ok (.return_, 1) := by decide +kernel
theorem dX5_init_0 : decode cX5_init 0 = .ok (.aload_n 0, 1) := by decide +kernel
theorem dX5_init_1 : decode cX5_init 1 = .ok (.invokespecial 1, 3) := by decide +kernel
theorem dX5_init_4 : decode cX5_init 4 = .ok (.aload_n 0, 1) := by decide +kernel
theorem dX5_init_5 : decode cX5_init 5 = .ok (.bipush 8, 2) := by decide +kernel
theorem dX5_init_7 : decode cX5_init 7 = .ok (.newarray .int, 2) := by decide +kernel
theorem dX5_init_9 : decode cX5_init 9 = .ok (.putfield 7, 3) := by decide +kernel
theorem dX5_init_12 : decode cX5_init 12 = .ok (.aload_n 0, 1) := by decide +kernel
theorem dX5_init_13 : decode cX5_init 13 = .ok (.bipush 6, 2) := by decide +kernel
theorem dX5_init_15 : decode cX5_init 15 = .ok (.newarray .int, 2) := by decide +kernel
theorem dX5_init_17 : decode cX5_init 17 = .ok (.putfield 13, 3) := by decide +kernel
theorem dX5_init_20 : decode cX5_init 20 = .ok (.aload_n 0, 1) := by decide +kernel
theorem dX5_init_21 : decode cX5_init 21 = .ok (.bipush 40, 2) := by decide +kernel
theorem dX5_init_23 : decode cX5_init 23 = .ok (.newarray .int, 2) := by decide +kernel
theorem dX5_init_25 : decode cX5_init 25 = .ok (.putfield 16, 3) := by decide +kernel
theorem dX5_init_28 : decode cX5_init 28 = .ok (.aload_n 0, 1) := by decide +kernel
theorem dX5_init_29 : decode cX5_init 29 = .ok (.bipush 40, 2) := by decide +kernel
theorem dX5_init_31 : decode cX5_init 31 = .ok (.newarray .int, 2) := by decide +kernel
theorem dX5_init_33 : decode cX5_init 33 = .ok (.putfield 19, 3) := by decide +kernel
theorem dX5_init_36 : decode cX5_init 36 = .ok (.aload_n 0, 1) := by decide +kernel
theorem dX5_init_37 : decode cX5_init 37 = .ok (.bipush 40, 2) := by decide +kernel
theorem dX5_init_39 : decode cX5_init 39 = .ok (.newarray .int, 2) := by decide +kernel
theorem dX5_init_41 : decode cX5_init 41 = .ok (.putfield 22, 3) := by decide +kernel
theorem dX5_init_44 : decode cX5_init 44 = .ok (.aload_n 0, 1) := by decide +kernel
theorem dX5_init_45 : decode cX5_init 45 = .ok (.bipush 40, 2) := by decide +kernel
theorem dX5_init_47 : decode cX5_init 47 = .ok (.newarray .int, 2) := by decide +kernel
theorem dX5_init_49 : decode cX5_init 49 = .ok (.putfield 25, 3) := by decide +kernel
theorem dX5_init_52 : decode cX5_init 52 = .ok (.aload_n 0, 1) := by decide +kernel
theorem dX5_init_53 : decode cX5_init 53 = .ok (.bipush 40, 2) := by decide +kernel
theorem dX5_init_55 : decode cX5_init 55 = .ok (.newarray .int, 2) := by decide +kernel
theorem dX5_init_57 : decode cX5_init 57 = .ok (.putfield 28, 3) := by decide +kernel
theorem dX5_init_60 : decode cX5_init 60 = .ok (.aload_n 0, 1) := by decide +kernel
theorem dX5_init_61 : decode cX5_init 61 = .ok (.bipush 40, 2) := by decide +kernel
theorem dX5_init_63 : decode cX5_init 63 = .ok (.newarray .int, 2) := by decide +kernel
theorem dX5_init_65 : decode cX5_init 65 = .ok (.putfield 31, 3) := by decide +kernel
theorem dX5_init_68 : decode cX5_init 68 = .ok (.aload_n 0, 1) := by decide +kernel
theorem dX5_init_69 : decode cX5_init 69 = .ok (.bipush 40, 2) := by decide +kernel
theorem dX5_init_71 : decode cX5_init 71 = .ok (.newarray .int, 2) := by decide +kernel
theorem dX5_init_73 : decode cX5_init 73 = .ok (.putfield 34, 3) := by decide +kernel
theorem dX5_init_76 : decode cX5_init 76 = .ok (.aload_n 0, 1) := by decide +kernel
theorem dX5_init_77 : decode cX5_init 77 = .ok (.bipush 40, 2) := by decide +kernel
theorem dX5_init_79 : decode cX5_init 79 = .ok (.newarray .int, 2) := by decide +kernel
theorem dX5_init_81 : decode cX5_init 81 = .ok (.putfield 37, 3) := by decide +kernel
theorem dX5_init_84 : decode cX5_init 84 = .ok (.aload_n 0, 1) := by decide +kernel
theorem dX5_init_85 : decode cX5_init 85 = .ok (.bipush 40, 2) := by decide +kernel
theorem dX5_init_87 : decode cX5_init 87 = .ok (.newarray .int, 2) := by decide +kernel
theorem dX5_init_89 : decode cX5_init 89 = .ok (.putfield 40, 3) := by decide +kernel
theorem dX5_init_92 : decode cX5_init 92 = .ok (.aload_n 0, 1) := by decide +kernel
theorem dX5_init_93 : decode cX5_init 93 = .ok (.bipush 60, 2) := by decide +kernel
theorem dX5_init_95 : decode cX5_init 95 = .ok (.newarray .int, 2) := by decide +kernel
theorem dX5_init_97 : decode cX5_init 97 = .ok (.putfield 43, 3) := by decide +kernel
theorem dX5_init_100 : decode cX5_init 100 = .ok (.aload_n 0, 1) := by decide +kernel
theorem dX5_init_101 : decode cX5_init 101 = .ok (.bipush 60, 2) := by decide +kernel
theorem dX5_init_103 : decode cX5_init 103 = .ok (.newarray .int, 2) := by decide +kernel
theorem dX5_init_105 : decode cX5_init 105 = .ok (.putfield 46, 3) := by decide +kernel
theorem dX5_init_108 : decode cX5_init 108 = .ok (.aload_n 0, 1) := by decide +kernel
theorem dX5_init_109 : decode cX5_init 109 = .ok (.bipush 30, 2) := by decide +kernel
theorem dX5_init_111 : decode cX5_init 111 = .ok (.newarray .int, 2) := by decide +kernel
theorem dX5_init_113 : decode cX5_init 113 = .ok (.putfield 49, 3) := by decide +kernel
theorem dX5_init_116 : decode cX5_init 116 = .ok (.aload_n 0, 1) := by decide +kernel
theorem dX5_init_117 : decode cX5_init 117 = .ok (.bipush 30, 2) := by decide +kernel
theorem dX5_init_119 : decode cX5_init 119 = .ok (.newarray .int, 2) := by decide +kernel
theorem dX5_init_121 : decode cX5_init 121 = .ok (.putfield 52, 3) := by decide +kernel
theorem dX5_init_124 : decode cX5_init 124 = .ok (.aload_n 0, 1) := by decide +kernel
theorem dX5_init_125 : decode cX5_init 125 = .ok (.bipush 30, 2) := by decide +kernel
theorem dX5_init_127 : decode cX5_init 127 = .ok (.newarray .int, 2) := by decide +kernel
theorem dX5_init_129 : decode cX5_init 129 = .ok (.putfield 55, 3) := by decide +kernel
theorem dX5_init_132 : decode cX5_init 132 = .ok (.aload_n 0, 1) := by decide +kernel
theorem dX5_init_133 : decode cX5_init 133 = .ok (.sipush 300, 3) := by decide +kernel
theorem dX5_init_136 : decode cX5_init 136 = .ok (.newarray .int, 2) := by decide +kernel
theorem dX5_init_138 : decode cX5_init 138 = .ok (.putfield 58, 3) := by decide +kernel
theorem dX5_init_141 : decode cX5_init 141 = .ok (.aload_n 0, 1) := by decide +kernel
theorem dX5_init_142 : decode cX5_init 142 = .ok (.sipush 300, 3) := by decide +kernel
theorem dX5_init_145 : decode cX5_init 145 = .ok (.newarray .int, 2) := by decide +kernel
theorem dX5_init_147 : decode cX5_init 147 = .ok (.putfield 61, 3) := by decide +kernel
theorem dX5_init_150 : decode cX5_init 150 = .ok (.aload_n 0, 1) := by decide +kernel
theorem dX5_init_151 : decode cX5_init 151 = .ok (.sipush 300, 3) := by decide +kernel
theorem dX5_init_154 : decode cX5_init 154 = .ok (.newarray .int, 2) := by decide +kernel
theorem dX5_init_156 : decode cX5_init 156 = .ok (.putfield 64, 3) := by decide +kernel
theorem dX5_init_159 : decode cX5_init 159 = .ok (.aload_n 0, 1) := by decide +kernel
theorem dX5_init_160 : decode cX5_init 160 = .ok (.sipush 300, 3) := by decide +kernel
theorem dX5_init_163 : decode cX5_init 163 = .ok (.newarray .int, 2) := by decide +kernel
theorem dX5_init_165 : decode cX5_init 165 = .ok (.putfield 67, 3) := by decide +kernel
theorem dX5_init_168 : decode cX5_init 168 = .ok (.aload_n 0, 1) := by decide +kernel
theorem dX5_init_169 : decode cX5_init 169 = .ok (.sipush 300, 3) := by decide +kernel
theorem dX5_init_172 : decode cX5_init 172 = .ok (.newarray .int, 2) := by decide +kernel
theorem dX5_init_174 : decode cX5_init 174 = .ok (.putfield 70, 3) := by decide +kernel
theorem dX5_init_177 : decode cX5_init 177 = .ok (.aload_n 0, 1) := by decide +kernel
theorem dX5_init_178 : decode cX5_init 178 = .ok (.sipush 1800, 3) := by decide +kernel
theorem dX5_init_181 : decode cX5_init 181 = .ok (.newarray .int, 2) := by decide +kernel
theorem dX5_init_183 : decode cX5_init 183 = .ok (.putfield 73, 3) := by decide +kernel
theorem dX5_init_186 : decode cX5_init 186 = .ok (.iconst 0, 1) := by decide +kernel
theorem dX5_init_187 : decode cX5_init 187 = .ok (.istore_n 1, 1) := by decide +kernel
theorem dX5_init_188 : decode cX5_init 188 = .ok (.iload_n 1, 1) := by decide +kernel
theorem dX5_init_189 : decode cX5_init 189 = .ok (.bipush 6, 2) := by decide +kernel
theorem dX5_init_191 : decode cX5_init 191 = .ok (.if_icmp .ge 17, 3) := by decide +kernel
theorem dX5_init_194 : decode cX5_init 194 = .ok (.aload_n 0, 1) := by decide +kernel
theorem dX5_init_195 : decode cX5_init 195 = .ok (.getfield 13, 3) := by decide +kernel
theorem dX5_init_198 : decode cX5_init 198 = .ok (.iload_n 1, 1) := by decide +kernel
theorem dX5_init_199 : decode cX5_init 199 = .ok (.bipush 100, 2) := by decide +kernel
theorem dX5_init_201 : decode cX5_init 201 = .ok (.iastore, 1) := by decide +kernel
theorem dX5_init_202 : decode cX5_init 202 = .ok (.iinc 1 1, 3) := by decide +kernel
theorem dX5_init_205 : decode cX5_init 205 = .ok (.goto (-17), 3) := by decide +kernel
theorem dX5_init_208 : decode cX5_init 208 = .ok (.return_, 1) := by decide +kernel
theorem dX5_in_0 : decode cX5_in 0 = .ok (.iload_n 0, 1) := by decide +kernel
theorem dX5_in_1 : decode cX5_in 1 = .ok (.iload_n 1, 1) := by decide +kernel
theorem dX5_in_2 : decode cX5_in 2 = .ok (.if_icmp .lt 12, 3) := by decide +kernel
theorem dX5_in_5 : decode cX5_in 5 = .ok (.iload_n 0, 1) := by decide +kernel
theorem dX5_in_6 : decode cX5_in 6 = .ok (.iload_n 2, 1) := by decide +kernel
theorem dX5_in_7 : decode cX5_in 7 = .ok (.if_icmp .gt 7, 3) := by decide +kernel
theorem dX5_in_10 : decode cX5_in 10 = .ok (.iconst 1, 1) := by decide +kernel
theorem dX5_in_11 : decode cX5_in 11 = .ok (.goto 4, 3) := by decide +kernel
theorem dX5_in_14 : decode cX5_in 14 = .ok (.iconst 0, 1) := by decide +kernel
theorem dX5_in_15 : decode cX5_in 15 = .ok (.ireturn, 1) := by decide +kernel
set_option maxRecDepth 20000 in
theorem ggX5_isSensor_X5_in : GoodIn wsX5_isSensor wsX5_in := goodIn_r _ [4] (by decide +kernel) (by decide +kernel)
set_option maxRecDepth 20000 in
theorem gX5_isSensor_X5_in : GoodIn wsX5_isSensor (va_wsS RX5 76 yX5_in wsX5_in) := goodIn_app (goodIn_of _ (by decide +kernel)) ggX5_isSensor_X5_in
theorem dX5_isSensor_0 : decode cX5_isSensor 0 = .ok (.iload_n 0, 1) := by decide +kernel
theorem dX5_isSensor_1 : decode cX5_isSensor 1 = .ok (.iconst 0, 1) := by decide +kernel
theorem dX5_isSensor_2 : decode cX5_isSensor 2 = .ok (.bipush 7, 2) := by decide +kernel
theorem dX5_isSensor_4 : decode cX5_isSensor 4 = .ok (.invokestatic 76, 3) := by decide +kernel
theorem dX5_isSensor_7 : decode cX5_isSensor 7 = .ok (.ireturn, 1) := by decide +kernel
set_option maxRecDepth 20000 in
theorem ggX5_isTank_X5_in : GoodIn wsX5_isTank wsX5_in := goodIn_r _ [4] (by decide +kernel) (by decide +kernel)
set_option maxRecDepth 20000 in
theorem gX5_isTank_X5_in : GoodIn wsX5_isTank (va_wsS RX5 76 yX5_in wsX5_in) := goodIn_app (goodIn_of _ (by decide +kernel)) ggX5_isTank_X5_in
theorem dX5_isTank_0 : decode cX5_isTank 0 = .ok (.iload_n 0, 1) := by decide +kernel
theorem dX5_isTank_1 : decode cX5_isTank 1 = .ok (.iconst 0, 1) := by decide +kernel
theorem dX5_isTank_2 : decode cX5_isTank 2 = .ok (.iconst 5, 1) := by decide +kernel
theorem dX5_isTank_3 : decode cX5_isTank 3 = .ok (.invokestatic 76, 3) := by decide +kernel
theorem dX5_isTank_6 : decode cX5_isTank 6 = .ok (.ireturn, 1) := by decide +kernel
set_option maxRecDepth 20000 in
theorem ggX5_show_X5_isSensor : GoodIn wsX5_show wsX5_isSensor := goodIn_r _ [6, 7, 8, 5, 9] (by decide +kernel) (by decide +kernel)
set_option maxRecDepth 20000 in
theorem gX5_show_X5_isSensor : GoodIn wsX5_show (va_wsS RX5 80 yX5_isSensor wsX5_isSensor) := goodIn_app (goodIn_of _ (by decide +kernel)) ggX5_show_X5_isSensor
theorem dX5_show_0 : decode cX5_show 0 = .ok (.aload_n 0, 1) := by decide +kernel
theorem dX5_show_1 : decode cX5_show 1 = .ok (.iload_n 1, 1) := by decide +kernel
theorem dX5_show_2 : decode cX5_show 2 = .ok (.invokestatic 80, 3) := by decide +kernel
theorem dX5_show_5 : decode cX5_show 5 = .ok (.ifCond .eq 7, 3) := by decide +kernel
theorem dX5_show_8 : decode cX5_show 8 = .ok (.iconst 0, 1) := by decide +kernel
theorem dX5_show_9 : decode cX5_show 9 = .ok (.goto 5, 3) := by decide +kernel
theorem dX5_show_12 : decode cX5_show 12 = .ok (.bipush (-2), 2) := by decide +kernel
theorem dX5_show_14 : decode cX5_show 14 = .ok (.putfield 84, 3) := by decide +kernel
theorem dX5_show_17 : decode cX5_show 17 = .ok (.aload_n 0, 1) := by decide +kernel
theorem dX5_show_18 : decode cX5_show 18 = .ok (.getfield 84, 3) := by decide +kernel
theorem dX5_show_21 : decode cX5_show 21 = .ok (.ifCond .ge 5, 3) := by decide +kernel
theorem dX5_show_24 : decode cX5_show 24 = .ok (.iconst 0, 1) := by decide +kernel
theorem dX5_show_25 : decode cX5_show 25 = .ok (.ireturn, 1) := by decide +kernel
theorem dX5_show_26 : decode cX5_show 26 = .ok (.aload_n 0, 1) := by decide +kernel
theorem dX5_show_27 : decode cX5_show 27 = .ok (.getfield 7, 3) := by decide +kernel
theorem dX5_show_30 : decode cX5_show 30 = .ok (.iload_n 1, 1) := by decide +kernel
theorem dX5_show_31 : decode cX5_show 31 = .ok (.iaload, 1) := by decide +kernel
theorem dX5_show_32 : decode cX5_show 32 = .ok (.istore_n 3, 1) := by decide +kernel
theorem dX5_show_33 : decode cX5_show 33 = .ok (.aload_n 0, 1) := by decide +kernel
theorem dX5_show_34 : decode cX5_show 34 = .ok (.getfield 7, 3) := by decide +kernel
theorem dX5_show_37 : decode cX5_show 37 = .ok (.iload_n 1, 1) := by decide +kernel
theorem dX5_show_38 : decode cX5_show 38 = .ok (.iload_n 2, 1) := by decide +kernel
theorem dX5_show_39 : decode cX5_show 39 = .ok (.iastore, 1) := by decide +kernel
theorem dX5_show_40 : decode cX5_show 40 = .ok (.iload_n 3, 1) := by decide +kernel
theorem dX5_show_41 : decode cX5_show 41 = .ok (.ireturn, 1) := by decide +kernel
set_option maxRecDepth 20000 in
theorem ggX5_shown_X5_isSensor : GoodIn wsX5_shown wsX5_isSensor := goodIn_r _ [6, 7, 8, 5, 9] (by decide +kernel) (by decide +kernel)
set_option maxRecDepth 20000 in
theorem gX5_shown_X5_isSensor : GoodIn wsX5_shown (va_wsS RX5 80 yX5_isSensor wsX5_isSensor) := goodIn_app (goodIn_of _ (by decide +kernel)) ggX5_shown_X5_isSensor
theorem dX5_shown_0 : decode cX5_shown 0 = .ok (.aload_n 0, 1) := by decide +kernel
theorem dX5_shown_1 : decode cX5_shown 1 = .ok (.iload_n 1, 1) := by decide +kernel
theorem dX5_shown_2 : decode cX5_shown 2 = .ok (.invokestatic 80, 3) := by decide +kernel
theorem dX5_shown_5 : decode cX5_shown 5 = .ok (.ifCond .eq 7, 3) := by decide +kernel
theorem dX5_shown_8 : decode cX5_shown 8 = .ok (.iconst 0, 1) := by decide +kernel
theorem dX5_shown_9 : decode cX5_shown 9 = .ok (.goto 5, 3) := by decide +kernel
theorem dX5_shown_12 : decode cX5_shown 12 = .ok (.bipush (-2), 2) := by decide +kernel
theorem dX5_shown_14 : decode cX5_shown 14 = .ok (.putfield 84, 3) := by decide +kernel
theorem dX5_shown_17 : decode cX5_shown 17 = .ok (.aload_n 0, 1) := by decide +kernel
theorem dX5_shown_18 : decode cX5_shown 18 = .ok (.getfield 84, 3) := by decide +kernel
theorem dX5_shown_21 : decode cX5_shown 21 = .ok (.ifCond .ge 7, 3) := by decide +kernel
theorem dX5_shown_24 : decode cX5_shown 24 = .ok (.iconst 0, 1) := by decide +kernel
theorem dX5_shown_25 : decode cX5_shown 25 = .ok (.goto 9, 3) := by decide +kernel
theorem dX5_shown_28 : decode cX5_shown 28 = .ok (.aload_n 0, 1) := by decide +kernel
theorem dX5_shown_29 : decode cX5_shown 29 = .ok (.getfield 7, 3) := by decide +kernel
theorem dX5_shown_32 : decode cX5_shown 32 = .ok (.iload_n 1, 1) := by decide +kernel
theorem dX5_shown_33 : decode cX5_shown 33 = .ok (.iaload, 1) := by decide +kernel
theorem dX5_shown_34 : decode cX5_shown 34 = .ok (.ireturn, 1) := by decide +kernel
set_option maxRecDepth 20000 in
theorem ggX5_fill_X5_isTank : GoodIn wsX5_fill wsX5_isTank := goodIn_r _ [6, 7, 8, 5, 9] (by decide +kernel) (by decide +kernel)
set_option maxRecDepth 20000 in
theorem gX5_fill_X5_isTank : GoodIn wsX5_fill (va_wsS RX5 88 yX5_isTank wsX5_isTank) := goodIn_app (goodIn_of _ (by decide +kernel)) ggX5_fill_X5_isTank
set_option maxRecDepth 20000 in
theorem ggX5_fill_X5_in : GoodIn wsX5_fill wsX5_in := goodIn_r _ [9] (by decide +kernel) (by decide +kernel)
set_option maxRecDepth 20000 in
theorem gX5_fill_X5_in : GoodIn wsX5_fill (va_wsS RX5 76 yX5_in wsX5_in) := goodIn_app (goodIn_of _ (by decide +kernel)) ggX5_fill_X5_in
theorem dX5_fill_0 : decode cX5_fill 0 = .ok (.iload_n 1, 1) := by decide +kernel
theorem dX5_fill_1 : decode cX5_fill 1 = .ok (.invokestatic 88, 3) := by decide +kernel
theorem dX5_fill_4 : decode cX5_fill 4 = .ok (.ifCond .ne 6, 3) := by decide +kernel
theorem dX5_fill_7 : decode cX5_fill 7 = .ok (.bipush (-2), 2) := by decide +kernel
theorem dX5_fill_9 : decode cX5_fill 9 = .ok (.ireturn, 1) := by decide +kernel
theorem dX5_fill_10 : decode cX5_fill 10 = .ok (.iload_n 2, 1) := by decide +kernel
theorem dX5_fill_11 : decode cX5_fill 11 = .ok (.iconst 0, 1) := by decide +kernel
theorem dX5_fill_12 : decode cX5_fill 12 = .ok (.ldc 91, 2) := by decide +kernel
theorem dX5_fill_14 : decode cX5_fill 14 = .ok (.invokestatic 76, 3) := by decide +kernel
theorem dX5_fill_17 : decode cX5_fill 17 = .ok (.ifCond .ne 6, 3) := by decide +kernel
theorem dX5_fill_20 : decode cX5_fill 20 = .ok (.bipush (-3), 2) := by decide +kernel
theorem dX5_fill_22 : decode cX5_fill 22 = .ok (.ireturn, 1) := by decide +kernel
theorem dX5_fill_23 : decode cX5_fill 23 = .ok (.aload_n 0, 1) := by decide +kernel
theorem dX5_fill_24 : decode cX5_fill 24 = .ok (.getfield 13, 3) := by decide +kernel
theorem dX5_fill_27 : decode cX5_fill 27 = .ok (.iload_n 1, 1) := by decide +kernel
theorem dX5_fill_28 : decode cX5_fill 28 = .ok (.iaload, 1) := by decide +kernel
theorem dX5_fill_29 : decode cX5_fill 29 = .ok (.istore_n 3, 1) := by decide +kernel
theorem dX5_fill_30 : decode cX5_fill 30 = .ok (.aload_n 0, 1) := by decide +kernel
theorem dX5_fill_31 : decode cX5_fill 31 = .ok (.getfield 13, 3) := by decide +kernel
theorem dX5_fill_34 : decode cX5_fill 34 = .ok (.iload_n 1, 1) := by decide +kernel
theorem dX5_fill_35 : decode cX5_fill 35 = .ok (.iload_n 2, 1) := by decide +kernel
theorem dX5_fill_36 : decode cX5_fill 36 = .ok (.iastore, 1) := by decide +kernel
theorem dX5_fill_37 : decode cX5_fill 37 = .ok (.iload_n 3, 1) := by decide +kernel
theorem dX5_fill_38 : decode cX5_fill 38 = .ok (.ireturn, 1) := by decide +kernel
set_option maxRecDepth 20000 in
theorem ggX5_tank_X5_isTank : GoodIn wsX5_tank wsX5_isTank := goodIn_r _ [5, 6, 7, 4, 8] (by decide +kernel) (by decide +kernel)
set_option maxRecDepth 20000 in
theorem gX5_tank_X5_isTank : GoodIn wsX5_tank (va_wsS RX5 88 yX5_isTank wsX5_isTank) := goodIn_app (goodIn_of _ (by decide +kernel)) ggX5_tank_X5_isTank
theorem dX5_tank_0 : decode cX5_tank 0 = .ok (.iload_n 1, 1) := by decide +kernel
theorem dX5_tank_1 : decode cX5_tank 1 = .ok (.invokestatic 88, 3) := by decide +kernel
theorem dX5_tank_4 : decode cX5_tank 4 = .ok (.ifCond .eq 12, 3) := by decide +kernel
theorem dX5_tank_7 : decode cX5_tank 7 = .ok (.aload_n 0, 1) := by decide +kernel
theorem dX5_tank_8 : decode cX5_tank 8 = .ok (.getfield 13, 3) := by decide +kernel
theorem dX5_tank_11 : decode cX5_tank 11 = .ok (.iload_n 1, 1) := by decide +kernel
theorem dX5_tank_12 : decode cX5_tank 12 = .ok (.iaload, 1) := by decide +kernel
theorem dX5_tank_13 : decode cX5_tank 13 = .ok (.goto 5, 3) := by decide +kernel
theorem dX5_tank_16 : decode cX5_tank 16 = .ok (.bipush (-2), 2) := by decide +kernel
theorem dX5_tank_18 : decode cX5_tank 18 = .ok (.ireturn, 1) := by decide +kernel
set_option maxRecDepth 20000 in
theorem ggX5_isRule_X5_in : GoodIn wsX5_isRule wsX5_in := goodIn_r _ [5] (by decide +kernel) (by decide +kernel)
set_option maxRecDepth 20000 in
theorem gX5_isRule_X5_in : GoodIn wsX5_isRule (va_wsS RX5 76 yX5_in wsX5_in) := goodIn_app (goodIn_of _ (by decide +kernel)) ggX5_isRule_X5_in
theorem dX5_isRule_0 : decode cX5_isRule 0 = .ok (.iload_n 1, 1) := by decide +kernel
theorem dX5_isRule_1 : decode cX5_isRule 1 = .ok (.iconst 0, 1) := by decide +kernel
theorem dX5_isRule_2 : decode cX5_isRule 2 = .ok (.aload_n 0, 1) := by decide +kernel
theorem dX5_isRule_3 : decode cX5_isRule 3 = .ok (.getfield 92, 3) := by decide +kernel
theorem dX5_isRule_6 : decode cX5_isRule 6 = .ok (.iconst 1, 1) := by decide +kernel
theorem dX5_isRule_7 : decode cX5_isRule 7 = .ok (.isub, 1) := by decide +kernel
theorem dX5_isRule_8 : decode cX5_isRule 8 = .ok (.invokestatic 76, 3) := by decide +kernel
theorem dX5_isRule_11 : decode cX5_isRule 11 = .ok (.ireturn, 1) := by decide +kernel
set_option maxRecDepth 20000 in
theorem ggX5_isAct_X5_in : GoodIn wsX5_isAct wsX5_in := goodIn_r _ [5] (by decide +kernel) (by decide +kernel)
set_option maxRecDepth 20000 in
theorem gX5_isAct_X5_in : GoodIn wsX5_isAct (va_wsS RX5 76 yX5_in wsX5_in) := goodIn_app (goodIn_of _ (by decide +kernel)) ggX5_isAct_X5_in
theorem dX5_isAct_0 : decode cX5_isAct 0 = .ok (.iload_n 1, 1) := by decide +kernel
theorem dX5_isAct_1 : decode cX5_isAct 1 = .ok (.iconst 0, 1) := by decide +kernel
theorem dX5_isAct_2 : decode cX5_isAct 2 = .ok (.aload_n 0, 1) := by decide +kernel
theorem dX5_isAct_3 : decode cX5_isAct 3 = .ok (.getfield 95, 3) := by decide +kernel
theorem dX5_isAct_6 : decode cX5_isAct 6 = .ok (.iconst 1, 1) := by decide +kernel
theorem dX5_isAct_7 : decode cX5_isAct 7 = .ok (.isub, 1) := by decide +kernel
theorem dX5_isAct_8 : decode cX5_isAct 8 = .ok (.invokestatic 76, 3) := by decide +kernel
theorem dX5_isAct_11 : decode cX5_isAct 11 = .ok (.ireturn, 1) := by decide +kernel
set_option maxRecDepth 20000 in
theorem ggX5_rule_X5_in : GoodIn wsX5_rule wsX5_in := goodIn_r _ [11] (by decide +kernel) (by decide +kernel)
set_option maxRecDepth 20000 in
theorem gX5_rule_X5_in : GoodIn wsX5_rule (va_wsS RX5 76 yX5_in wsX5_in) := goodIn_app (goodIn_of _ (by decide +kernel)) ggX5_rule_X5_in
set_option maxRecDepth 20000 in
theorem ggX5_rule_X5_isSensor : GoodIn wsX5_rule wsX5_isSensor := goodIn_r _ [14, 8, 9, 10, 11] (by decide +kernel) (by decide +kernel)
set_option maxRecDepth 20000 in
theorem gX5_rule_X5_isSensor : GoodIn wsX5_rule (va_wsS RX5 80 yX5_isSensor wsX5_isSensor) := goodIn_app (goodIn_of _ (by decide +kernel)) ggX5_rule_X5_isSensor
set_option maxRecDepth 20000 in
theorem ggX5_rule_X5_isRule : GoodIn wsX5_rule wsX5_isRule := goodIn_r _ [18, 1, 8, 9, 10, 11, 19, 20, 21, 22, 23, 24, 25, 26, 27, 28, 29, 30, 31, 32, 33, 34, 35, 36, 37, 38, 39, 40, 41, 42, 43, 44, 45, 46, 47, 48, 49, 50, 51, 52, 53, 54] (by decide +kernel) (by decide +kernel)
set_option maxRecDepth 20000 in
theorem gX5_rule_X5_isRule : GoodIn wsX5_rule (wsV RX5 98 RX5 yX5_isRule wsX5_isRule) := goodIn_app (goodIn_of _ (by decide +kernel)) ggX5_rule_X5_isRule
theorem dX5_rule_0 : decode cX5_rule 0 = .ok (.iload_n 1, 1) := by decide +kernel
theorem dX5_rule_1 : decode cX5_rule 1 = .ok (.iconst 0, 1) := by decide +kernel
theorem dX5_rule_2 : decode cX5_rule 2 = .ok (.bipush 9, 2) := by decide +kernel
theorem dX5_rule_4 : decode cX5_rule 4 = .ok (.invokestatic 76, 3) := by decide +kernel
theorem dX5_rule_7 : decode cX5_rule 7 = .ok (.ifCond .ne 6, 3) := by decide +kernel
theorem dX5_rule_10 : decode cX5_rule 10 = .ok (.bipush (-3), 2) := by decide +kernel
theorem dX5_rule_12 : decode cX5_rule 12 = .ok (.ireturn, 1) := by decide +kernel
theorem dX5_rule_13 : decode cX5_rule 13 = .ok (.iload_n 1, 1) := by decide +kernel
theorem dX5_rule_14 : decode cX5_rule 14 = .ok (.iconst 5, 1) := by decide +kernel
theorem dX5_rule_15 : decode cX5_rule 15 = .ok (.if_icmp .ge 30, 3) := by decide +kernel
theorem dX5_rule_18 : decode cX5_rule 18 = .ok (.iload_n 2, 1) := by decide +kernel
theorem dX5_rule_19 : decode cX5_rule 19 = .ok (.invokestatic 80, 3) := by decide +kernel
theorem dX5_rule_22 : decode cX5_rule 22 = .ok (.ifCond .eq 19, 3) := by decide +kernel
theorem dX5_rule_25 : decode cX5_rule 25 = .ok (.iload_n 1, 1) := by decide +kernel
theorem dX5_rule_26 : decode cX5_rule 26 = .ok (.iconst 3, 1) := by decide +kernel
theorem dX5_rule_27 : decode cX5_rule 27 = .ok (.if_icmp .ne 10, 3) := by decide +kernel
theorem dX5_rule_30 : decode cX5_rule 30 = .ok (.iload_n 3, 1) := by decide +kernel
theorem dX5_rule_31 : decode cX5_rule 31 = .ok (.invokestatic 80, 3) := by decide +kernel
theorem dX5_rule_34 : decode cX5_rule 34 = .ok (.ifCond .eq 7, 3) := by decide +kernel
theorem dX5_rule_37 : decode cX5_rule 37 = .ok (.iconst 1, 1) := by decide +kernel
theorem dX5_rule_38 : decode cX5_rule 38 = .ok (.goto 39, 3) := by decide +kernel
theorem dX5_rule_41 : decode cX5_rule 41 = .ok (.iconst 0, 1) := by decide +kernel
theorem dX5_rule_42 : decode cX5_rule 42 = .ok (.goto 35, 3) := by decide +kernel
theorem dX5_rule_45 : decode cX5_rule 45 = .ok (.aload_n 0, 1) := by decide +kernel
theorem dX5_rule_46 : decode cX5_rule 46 = .ok (.iload_n 2, 1) := by decide +kernel
theorem dX5_rule_47 : decode cX5_rule 47 = .ok (.invokevirtual 98, 3) := by decide +kernel
theorem dX5_rule_50 : decode cX5_rule 50 = .ok (.ifCond .eq 26, 3) := by decide +kernel
theorem dX5_rule_53 : decode cX5_rule 53 = .ok (.iload_n 1, 1) := by decide +kernel
theorem dX5_rule_54 : decode cX5_rule 54 = .ok (.iconst 5, 1) := by decide +kernel
theorem dX5_rule_55 : decode cX5_rule 55 = .ok (.if_icmp .eq 17, 3) := by decide +kernel
theorem dX5_rule_58 : decode cX5_rule 58 = .ok (.iload_n 1, 1) := by decide +kernel
theorem dX5_rule_59 : decode cX5_rule 59 = .ok (.bipush 8, 2) := by decide +kernel
theorem dX5_rule_61 : decode cX5_rule 61 = .ok (.if_icmp .eq 11, 3) := by decide +kernel
theorem dX5_rule_64 : decode cX5_rule 64 = .ok (.aload_n 0, 1) := by decide +kernel
theorem dX5_rule_65 : decode cX5_rule 65 = .ok (.iload_n 3, 1) := by decide +kernel
theorem dX5_rule_66 : decode cX5_rule 66 = .ok (.invokevirtual 98, 3) := by decide +kernel
theorem dX5_rule_69 : decode cX5_rule 69 = .ok (.ifCond .eq 7, 3) := by decide +kernel
theorem dX5_rule_72 : decode cX5_rule 72 = .ok (.iconst 1, 1) := by decide +kernel
theorem dX5_rule_73 : decode cX5_rule 73 = .ok (.goto 4, 3) := by decide +kernel
theorem dX5_rule_76 : decode cX5_rule 76 = .ok (.iconst 0, 1) := by decide +kernel
theorem dX5_rule_77 : decode cX5_rule 77 = .ok (.istore 5, 2) := by decide +kernel
theorem dX5_rule_79 : decode cX5_rule 79 = .ok (.iload 5, 2) := by decide +kernel
theorem dX5_rule_81 : decode cX5_rule 81 = .ok (.ifCond .ne 6, 3) := by decide +kernel
theorem dX5_rule_84 : decode cX5_rule 84 = .ok (.bipush (-2), 2) := by decide +kernel
theorem dX5_rule_86 : decode cX5_rule 86 = .ok (.ireturn, 1) := by decide +kernel
theorem dX5_rule_87 : decode cX5_rule 87 = .ok (.iload_n 1, 1) := by decide +kernel
theorem dX5_rule_88 : decode cX5_rule 88 = .ok (.bipush 8, 2) := by decide +kernel
theorem dX5_rule_90 : decode cX5_rule 90 = .ok (.if_icmp .ne 13, 3) := by decide +kernel
theorem dX5_rule_93 : decode cX5_rule 93 = .ok (.iload_n 3, 1) := by decide +kernel
theorem dX5_rule_94 : decode cX5_rule 94 = .ok (.iconst 1, 1) := by decide +kernel
theorem dX5_rule_95 : decode cX5_rule 95 = .ok (.bipush 100, 2) := by decide +kernel
theorem dX5_rule_97 : decode cX5_rule 97 = .ok (.invokestatic 76, 3) := by decide +kernel
theorem dX5_rule_100 : decode cX5_rule 100 = .ok (.ifCond .eq 13, 3) := by decide +kernel
theorem dX5_rule_103 : decode cX5_rule 103 = .ok (.iload_n 1, 1) := by decide +kernel
theorem dX5_rule_104 : decode cX5_rule 104 = .ok (.iconst 1, 1) := by decide +kernel
theorem dX5_rule_105 : decode cX5_rule 105 = .ok (.if_icmp .ne 11, 3) := by decide +kernel
theorem dX5_rule_108 : decode cX5_rule 108 = .ok (.iload 4, 2) := by decide +kernel
theorem dX5_rule_110 : decode cX5_rule 110 = .ok (.ifCond .ge 6, 3) := by decide +kernel
theorem dX5_rule_113 : decode cX5_rule 113 = .ok (.bipush (-3), 2) := by decide +kernel
theorem dX5_rule_115 : decode cX5_rule 115 = .ok (.ireturn, 1) := by decide +kernel
theorem dX5_rule_116 : decode cX5_rule 116 = .ok (.aload_n 0, 1) := by decide +kernel
theorem dX5_rule_117 : decode cX5_rule 117 = .ok (.getfield 92, 3) := by decide +kernel
theorem dX5_rule_120 : decode cX5_rule 120 = .ok (.bipush 40, 2) := by decide +kernel
theorem dX5_rule_122 : decode cX5_rule 122 = .ok (.if_icmp .ne 6, 3) := by decide +kernel
theorem dX5_rule_125 : decode cX5_rule 125 = .ok (.bipush (-4), 2) := by decide +kernel
theorem dX5_rule_127 : decode cX5_rule 127 = .ok (.ireturn, 1) := by decide +kernel
theorem dX5_rule_128 : decode cX5_rule 128 = .ok (.aload_n 0, 1) := by decide +kernel
theorem dX5_rule_129 : decode cX5_rule 129 = .ok (.getfield 16, 3) := by decide +kernel
theorem dX5_rule_132 : decode cX5_rule 132 = .ok (.aload_n 0, 1) := by decide +kernel
theorem dX5_rule_133 : decode cX5_rule 133 = .ok (.getfield 92, 3) := by decide +kernel
theorem dX5_rule_136 : decode cX5_rule 136 = .ok (.iload_n 1, 1) := by decide +kernel
theorem dX5_rule_137 : decode cX5_rule 137 = .ok (.iastore, 1) := by decide +kernel
theorem dX5_rule_138 : decode cX5_rule 138 = .ok (.aload_n 0, 1) := by decide +kernel
theorem dX5_rule_139 : decode cX5_rule 139 = .ok (.getfield 19, 3) := by decide +kernel
theorem dX5_rule_142 : decode cX5_rule 142 = .ok (.aload_n 0, 1) := by decide +kernel
theorem dX5_rule_143 : decode cX5_rule 143 = .ok (.getfield 92, 3) := by decide +kernel
theorem dX5_rule_146 : decode cX5_rule 146 = .ok (.iload_n 2, 1) := by decide +kernel
theorem dX5_rule_147 : decode cX5_rule 147 = .ok (.iastore, 1) := by decide +kernel
theorem dX5_rule_148 : decode cX5_rule 148 = .ok (.aload_n 0, 1) := by decide +kernel
theorem dX5_rule_149 : decode cX5_rule 149 = .ok (.getfield 22, 3) := by decide +kernel
theorem dX5_rule_152 : decode cX5_rule 152 = .ok (.aload_n 0, 1) := by decide +kernel
theorem dX5_rule_153 : decode cX5_rule 153 = .ok (.getfield 92, 3) := by decide +kernel
theorem dX5_rule_156 : decode cX5_rule 156 = .ok (.iload_n 3, 1) := by decide +kernel
theorem dX5_rule_157 : decode cX5_rule 157 = .ok (.iastore, 1) := by decide +kernel
theorem dX5_rule_158 : decode cX5_rule 158 = .ok (.aload_n 0, 1) := by decide +kernel
theorem dX5_rule_159 : decode cX5_rule 159 = .ok (.getfield 25, 3) := by decide +kernel
theorem dX5_rule_162 : decode cX5_rule 162 = .ok (.aload_n 0, 1) := by decide +kernel
theorem dX5_rule_163 : decode cX5_rule 163 = .ok (.getfield 92, 3) := by decide +kernel
theorem dX5_rule_166 : decode cX5_rule 166 = .ok (.iload 4, 2) := by decide +kernel
theorem dX5_rule_168 : decode cX5_rule 168 = .ok (.iastore, 1) := by decide +kernel
theorem dX5_rule_169 : decode cX5_rule 169 = .ok (.aload_n 0, 1) := by decide +kernel
theorem dX5_rule_170 : decode cX5_rule 170 = .ok (.getfield 28, 3) := by decide +kernel
theorem dX5_rule_173 : decode cX5_rule 173 = .ok (.aload_n 0, 1) := by decide +kernel
theorem dX5_rule_174 : decode cX5_rule 174 = .ok (.getfield 92, 3) := by decide +kernel
theorem dX5_rule_177 : decode cX5_rule 177 = .ok (.iload_n 1, 1) := by decide +kernel
theorem dX5_rule_178 : decode cX5_rule 178 = .ok (.iconst 2, 1) := by decide +kernel
theorem dX5_rule_179 : decode cX5_rule 179 = .ok (.if_icmp .ne 12, 3) := by decide +kernel
theorem dX5_rule_182 : decode cX5_rule 182 = .ok (.aload_n 0, 1) := by decide +kernel
theorem dX5_rule_183 : decode cX5_rule 183 = .ok (.getfield 7, 3) := by decide +kernel
theorem dX5_rule_186 : decode cX5_rule 186 = .ok (.iload_n 2, 1) := by decide +kernel
theorem dX5_rule_187 : decode cX5_rule 187 = .ok (.iaload, 1) := by decide +kernel
theorem dX5_rule_188 : decode cX5_rule 188 = .ok (.goto 4, 3) := by decide +kernel
theorem dX5_rule_191 : decode cX5_rule 191 = .ok (.iconst 0, 1) := by decide +kernel
theorem dX5_rule_192 : decode cX5_rule 192 = .ok (.iastore, 1) := by decide +kernel
theorem dX5_rule_193 : decode cX5_rule 193 = .ok (.aload_n 0, 1) := by decide +kernel
theorem dX5_rule_194 : decode cX5_rule 194 = .ok (.dup, 1) := by decide +kernel
theorem dX5_rule_195 : decode cX5_rule 195 = .ok (.getfield 92, 3) := by decide +kernel
theorem dX5_rule_198 : decode cX5_rule 198 = .ok (.iconst 1, 1) := by decide +kernel
theorem dX5_rule_199 : decode cX5_rule 199 = .ok (.iadd, 1) := by decide +kernel
theorem dX5_rule_200 : decode cX5_rule 200 = .ok (.putfield 92, 3) := by decide +kernel
theorem dX5_rule_203 : decode cX5_rule 203 = .ok (.aload_n 0, 1) := by decide +kernel
theorem dX5_rule_204 : decode cX5_rule 204 = .ok (.getfield 92, 3) := by decide +kernel
theorem dX5_rule_207 : decode cX5_rule 207 = .ok (.iconst 1, 1) := by decide +kernel
theorem dX5_rule_208 : decode cX5_rule 208 = .ok (.isub, 1) := by decide +kernel
theorem dX5_rule_209 : decode cX5_rule 209 = .ok (.ireturn, 1) := by decide +kernel
set_option maxRecDepth 20000 in
theorem ggX5_isActOrNone_X5_isAct : GoodIn wsX5_isActOrNone wsX5_isAct := goodIn_r _ [5, 6, 7, 8, 4, 9, 10, 11, 12, 13, 14, 15, 16, 17, 18, 19, 20, 21, 22, 23, 24, 25, 26, 27, 28, 29, 30, 31, 32, 33, 34, 35, 36, 37, 38, 39, 40, 41, 42, 43, 44, 45] (by decide +kernel) (by decide +kernel)
set_option maxRecDepth 20000 in
theorem gX5_isActOrNone_X5_isAct : GoodIn wsX5_isActOrNone (wsV RX5 101 RX5 yX5_isAct wsX5_isAct) := goodIn_app (goodIn_of _ (by decide +kernel)) ggX5_isActOrNone_X5_isAct
theorem dX5_isActOrNone_0 : decode cX5_isActOrNone 0 = .ok (.iload_n 1, 1) := by decide +kernel
theorem dX5_isActOrNone_1 : decode cX5_isActOrNone 1 = .ok (.iconst (-1), 1) := by decide +kernel
theorem dX5_isActOrNone_2 : decode cX5_isActOrNone 2 = .ok (.if_icmp .eq 11, 3) := by decide +kernel
theorem dX5_isActOrNone_5 : decode cX5_isActOrNone 5 = .ok (.aload_n 0, 1) := by decide +kernel
theorem dX5_isActOrNone_6 : decode cX5_isActOrNone 6 = .ok (.iload_n 1, 1) := by decide +kernel
theorem dX5_isActOrNone_7 : decode cX5_isActOrNone 7 = .ok (.invokevirtual 101, 3) := by decide +kernel
theorem dX5_isActOrNone_10 : decode cX5_isActOrNone 10 = .ok (.ifCond .eq 7, 3) := by decide +kernel
theorem dX5_isActOrNone_13 : decode cX5_isActOrNone 13 = .ok (.iconst 1, 1) := by decide +kernel
theorem dX5_isActOrNone_14 : decode cX5_isActOrNone 14 = .ok (.goto 4, 3) := by decide +kernel
theorem dX5_isActOrNone_17 : decode cX5_isActOrNone 17 = .ok (.iconst 0, 1) := by decide +kernel
theorem dX5_isActOrNone_18 : decode cX5_isActOrNone 18 = .ok (.ireturn, 1) := by decide +kernel
set_option maxRecDepth 20000 in
theorem ggX5_areKnown_X5_isTank : GoodIn wsX5_areKnown wsX5_isTank := goodIn_r _ [4, 5, 6, 3, 7] (by decide +kernel) (by decide +kernel)
set_option maxRecDepth 20000 in
theorem gX5_areKnown_X5_isTank : GoodIn wsX5_areKnown (va_wsS RX5 88 yX5_isTank wsX5_isTank) := goodIn_app (goodIn_of _ (by decide +kernel)) ggX5_areKnown_X5_isTank
set_option maxRecDepth 20000 in
theorem ggX5_areKnown_X5_isRule : GoodIn wsX5_areKnown wsX5_isRule := goodIn_r _ [11, 12, 5, 6, 3, 7, 25, 26, 27, 28, 29, 30, 31, 32, 33, 34, 35, 36, 37, 38, 39, 40, 41, 42, 43, 44, 45, 46, 47, 48, 49, 50, 51, 52, 53, 54, 55, 56, 57, 58, 59, 60] (by decide +kernel) (by decide +kernel)
set_option maxRecDepth 20000 in
theorem gX5_areKnown_X5_isRule : GoodIn wsX5_areKnown (wsV RX5 98 RX5 yX5_isRule wsX5_isRule) := goodIn_app (goodIn_of _ (by decide +kernel)) ggX5_areKnown_X5_isRule
set_option maxRecDepth 20000 in
theorem ggX5_areKnown_X5_isActOrNone : GoodIn wsX5_areKnown wsX5_isActOrNone := goodIn_r _ [16, 17, 18, 19, 3, 20, 21, 5, 6, 7, 25, 26, 27, 28, 29, 30, 31, 32, 33, 34, 35, 36, 37, 38, 39, 40, 41, 42, 43, 44, 45, 46, 47, 48, 49, 50, 51, 52, 53, 54, 55, 56, 57, 58, 59, 60] (by decide +kernel) (by decide +kernel)
set_option maxRecDepth 20000 in
theorem gX5_areKnown_X5_isActOrNone : GoodIn wsX5_areKnown (wsV RX5 104 RX5 yX5_isActOrNone wsX5_isActOrNone) := goodIn_app (goodIn_of _ (by decide +kernel)) ggX5_areKnown_X5_isActOrNone
set_option maxRecDepth 20000 in
theorem ggX5_areKnown_X5_isAct : GoodIn wsX5_areKnown wsX5_isAct := goodIn_r _ [20, 21, 5, 6, 3, 7, 25, 26, 27, 28, 29, 30, 31, 32, 33, 34, 35, 36, 37, 38, 39, 40, 41, 42, 43, 44, 45, 46, 47, 48, 49, 50, 51, 52, 53, 54, 55, 56, 57, 58, 59, 60] (by decide +kernel) (by decide +kernel)
set_option maxRecDepth 20000 in
theorem gX5_areKnown_X5_isAct : GoodIn wsX5_areKnown (wsV RX5 101 RX5 yX5_isAct wsX5_isAct) := goodIn_app (goodIn_of _ (by decide +kernel)) ggX5_areKnown_X5_isAct
set_option maxRecDepth 20000 in
theorem ggX5_areKnown_X5_isSensor : GoodIn wsX5_areKnown wsX5_isSensor := goodIn_r _ [24, 5, 6, 3, 7] (by decide +kernel) (by decide +kernel)
set_option maxRecDepth 20000 in
theorem gX5_areKnown_X5_isSensor : GoodIn wsX5_areKnown (va_wsS RX5 80 yX5_isSensor wsX5_isSensor) := goodIn_app (goodIn_of _ (by decide +kernel)) ggX5_areKnown_X5_isSensor
theorem dX5_areKnown_0 : decode cX5_areKnown 0 = .ok (.iload_n 1, 1) := by decide +kernel
theorem dX5_areKnown_1 : decode cX5_areKnown 1 = .ok (.tableswitch 155 0 8 #[51, 56, 76, 107, 129, 129, 107, 155, 135], 51) := by decide +kernel
theorem dX5_areKnown_52 : decode cX5_areKnown 52 = .ok (.iload_n 2, 1) := by decide +kernel
theorem dX5_areKnown_53 : decode cX5_areKnown 53 = .ok (.invokestatic 88, 3) := by decide +kernel
theorem dX5_areKnown_56 : decode cX5_areKnown 56 = .ok (.ireturn, 1) := by decide +kernel
theorem dX5_areKnown_57 : decode cX5_areKnown 57 = .ok (.iload_n 2, 1) := by decide +kernel
theorem dX5_areKnown_58 : decode cX5_areKnown 58 = .ok (.invokestatic 88, 3) := by decide +kernel
theorem dX5_areKnown_61 : decode cX5_areKnown 61 = .ok (.ifCond .eq 14, 3) := by decide +kernel
theorem dX5_areKnown_64 : decode cX5_areKnown 64 = .ok (.iload_n 3, 1) := by decide +kernel
theorem dX5_areKnown_65 : decode cX5_areKnown 65 = .ok (.invokestatic 88, 3) := by decide +kernel
theorem dX5_areKnown_68 : decode cX5_areKnown 68 = .ok (.ifCond .eq 7, 3) := by decide +kernel
theorem dX5_areKnown_71 : decode cX5_areKnown 71 = .ok (.iconst 1, 1) := by decide +kernel
theorem dX5_areKnown_72 : decode cX5_areKnown 72 = .ok (.goto 4, 3) := by decide +kernel
theorem dX5_areKnown_75 : decode cX5_areKnown 75 = .ok (.iconst 0, 1) := by decide +kernel
theorem dX5_areKnown_76 : decode cX5_areKnown 76 = .ok (.ireturn, 1) := by decide +kernel
theorem dX5_areKnown_77 : decode cX5_areKnown 77 = .ok (.aload_n 0, 1) := by decide +kernel
theorem dX5_areKnown_78 : decode cX5_areKnown 78 = .ok (.iload_n 2, 1) := by decide +kernel
theorem dX5_areKnown_79 : decode cX5_areKnown 79 = .ok (.invokevirtual 98, 3) := by decide +kernel
theorem dX5_areKnown_82 : decode cX5_areKnown 82 = .ok (.ifCond .eq 24, 3) := by decide +kernel
theorem dX5_areKnown_85 : decode cX5_areKnown 85 = .ok (.aload_n 0, 1) := by decide +kernel
theorem dX5_areKnown_86 : decode cX5_areKnown 86 = .ok (.iload_n 3, 1) := by decide +kernel
theorem dX5_areKnown_87 : decode cX5_areKnown 87 = .ok (.invokevirtual 104, 3) := by decide +kernel
theorem dX5_areKnown_90 : decode cX5_areKnown 90 = .ok (.ifCond .eq 16, 3) := by decide +kernel
theorem dX5_areKnown_93 : decode cX5_areKnown 93 = .ok (.aload_n 0, 1) := by decide +kernel
theorem dX5_areKnown_94 : decode cX5_areKnown 94 = .ok (.iload 4, 2) := by decide +kernel
theorem dX5_areKnown_96 : decode cX5_areKnown 96 = .ok (.invokevirtual 104, 3) := by decide +kernel
theorem dX5_areKnown_99 : decode cX5_areKnown 99 = .ok (.ifCond .eq 7, 3) := by decide +kernel
theorem dX5_areKnown_102 : decode cX5_areKnown 102 = .ok (.iconst 1, 1) := by decide +kernel
theorem dX5_areKnown_103 : decode cX5_areKnown 103 = .ok (.goto 4, 3) := by decide +kernel
theorem dX5_areKnown_106 : decode cX5_areKnown 106 = .ok (.iconst 0, 1) := by decide +kernel
theorem dX5_areKnown_107 : decode cX5_areKnown 107 = .ok (.ireturn, 1) := by decide +kernel
theorem dX5_areKnown_108 : decode cX5_areKnown 108 = .ok (.aload_n 0, 1) := by decide +kernel
theorem dX5_areKnown_109 : decode cX5_areKnown 109 = .ok (.iload_n 2, 1) := by decide +kernel
theorem dX5_areKnown_110 : decode cX5_areKnown 110 = .ok (.invokevirtual 101, 3) := by decide +kernel
theorem dX5_areKnown_113 : decode cX5_areKnown 113 = .ok (.ifCond .eq 15, 3) := by decide +kernel
theorem dX5_areKnown_116 : decode cX5_areKnown 116 = .ok (.aload_n 0, 1) := by decide +kernel
theorem dX5_areKnown_117 : decode cX5_areKnown 117 = .ok (.iload_n 3, 1) := by decide +kernel
theorem dX5_areKnown_118 : decode cX5_areKnown 118 = .ok (.invokevirtual 101, 3) := by decide +kernel
theorem dX5_areKnown_121 : decode cX5_areKnown 121 = .ok (.ifCond .eq 7, 3) := by decide +kernel
theorem dX5_areKnown_124 : decode cX5_areKnown 124 = .ok (.iconst 1, 1) := by decide +kernel
theorem dX5_areKnown_125 : decode cX5_areKnown 125 = .ok (.goto 4, 3) := by decide +kernel
theorem dX5_areKnown_128 : decode cX5_areKnown 128 = .ok (.iconst 0, 1) := by decide +kernel
theorem dX5_areKnown_129 : decode cX5_areKnown 129 = .ok (.ireturn, 1) := by decide +kernel
theorem dX5_areKnown_130 : decode cX5_areKnown 130 = .ok (.aload_n 0, 1) := by decide +kernel
theorem dX5_areKnown_131 : decode cX5_areKnown 131 = .ok (.iload_n 2, 1) := by decide +kernel
theorem dX5_areKnown_132 : decode cX5_areKnown 132 = .ok (.invokevirtual 101, 3) := by decide +kernel
theorem dX5_areKnown_135 : decode cX5_areKnown 135 = .ok (.ireturn, 1) := by decide +kernel
theorem dX5_areKnown_136 : decode cX5_areKnown 136 = .ok (.iload_n 2, 1) := by decide +kernel
theorem dX5_areKnown_137 : decode cX5_areKnown 137 = .ok (.invokestatic 80, 3) := by decide +kernel
theorem dX5_areKnown_140 : decode cX5_areKnown 140 = .ok (.ifCond .eq 14, 3) := by decide +kernel
theorem dX5_areKnown_143 : decode cX5_areKnown 143 = .ok (.iload_n 3, 1) := by decide +kernel
theorem dX5_areKnown_144 : decode cX5_areKnown 144 = .ok (.invokestatic 88, 3) := by decide +kernel
theorem dX5_areKnown_147 : decode cX5_areKnown 147 = .ok (.ifCond .eq 7, 3) := by decide +kernel
theorem dX5_areKnown_150 : decode cX5_areKnown 150 = .ok (.iconst 1, 1) := by decide +kernel
theorem dX5_areKnown_151 : decode cX5_areKnown 151 = .ok (.goto 4, 3) := by decide +kernel
theorem dX5_areKnown_154 : decode cX5_areKnown 154 = .ok (.iconst 0, 1) := by decide +kernel
theorem dX5_areKnown_155 : decode cX5_areKnown 155 = .ok (.ireturn, 1) := by decide +kernel
theorem dX5_areKnown_156 : decode cX5_areKnown 156 = .ok (.iconst 1, 1) := by decide +kernel
theorem dX5_areKnown_157 : decode cX5_areKnown 157 = .ok (.ireturn, 1) := by decide +kernel
set_option maxRecDepth 20000 in
theorem ggX5_act_X5_in : GoodIn wsX5_act wsX5_in := goodIn_r _ [9] (by decide +kernel) (by decide +kernel)
set_option maxRecDepth 20000 in
theorem gX5_act_X5_in : GoodIn wsX5_act (va_wsS RX5 76 yX5_in wsX5_in) := goodIn_app (goodIn_of _ (by decide +kernel)) ggX5_act_X5_in
set_option maxRecDepth 20000 in
theorem ggX5_act_X5_areKnown : GoodIn wsX5_act wsX5_areKnown := goodIn_r _ [13, 14, 15, 8, 16, 6, 7, 9, 17, 18, 19, 20, 21, 22, 23, 24, 25, 26, 27, 28, 29, 1, 30, 31, 32, 33, 34, 35, 36, 37, 38, 39, 40, 41, 42, 43, 44, 45, 46, 47, 48, 49, 50, 51, 52, 53, 54, 55, 56, 57, 58, 59, 60, 61, 62, 63, 64, 65, 66, 67, 68] (by decide +kernel) (by decide +kernel)
set_option maxRecDepth 20000 in
theorem gX5_act_X5_areKnown : GoodIn wsX5_act (wsV RX5 107 RX5 yX5_areKnown wsX5_areKnown) := goodIn_app (goodIn_of _ (by decide +kernel)) ggX5_act_X5_areKnown
theorem dX5_act_0 : decode cX5_act 0 = .ok (.iload_n 1, 1) := by decide +kernel
theorem dX5_act_1 : decode cX5_act 1 = .ok (.iconst 0, 1) := by decide +kernel
theorem dX5_act_2 : decode cX5_act 2 = .ok (.bipush 8, 2) := by decide +kernel
theorem dX5_act_4 : decode cX5_act 4 = .ok (.invokestatic 76, 3) := by decide +kernel
theorem dX5_act_7 : decode cX5_act 7 = .ok (.ifCond .ne 6, 3) := by decide +kernel
theorem dX5_act_10 : decode cX5_act 10 = .ok (.bipush (-3), 2) := by decide +kernel
theorem dX5_act_12 : decode cX5_act 12 = .ok (.ireturn, 1) := by decide +kernel
theorem dX5_act_13 : decode cX5_act 13 = .ok (.aload_n 0, 1) := by decide +kernel
theorem dX5_act_14 : decode cX5_act 14 = .ok (.iload_n 1, 1) := by decide +kernel
theorem dX5_act_15 : decode cX5_act 15 = .ok (.iload_n 2, 1) := by decide +kernel
theorem dX5_act_16 : decode cX5_act 16 = .ok (.iload_n 3, 1) := by decide +kernel
theorem dX5_act_17 : decode cX5_act 17 = .ok (.iload 4, 2) := by decide +kernel
theorem dX5_act_19 : decode cX5_act 19 = .ok (.invokevirtual 107, 3) := by decide +kernel
theorem dX5_act_22 : decode cX5_act 22 = .ok (.ifCond .ne 6, 3) := by decide +kernel
theorem dX5_act_25 : decode cX5_act 25 = .ok (.bipush (-2), 2) := by decide +kernel
theorem dX5_act_27 : decode cX5_act 27 = .ok (.ireturn, 1) := by decide +kernel
theorem dX5_act_28 : decode cX5_act 28 = .ok (.iload_n 1, 1) := by decide +kernel
theorem dX5_act_29 : decode cX5_act 29 = .ok (.ifCond .ne 14, 3) := by decide +kernel
theorem dX5_act_32 : decode cX5_act 32 = .ok (.iload_n 3, 1) := by decide +kernel
theorem dX5_act_33 : decode cX5_act 33 = .ok (.iconst 0, 1) := by decide +kernel
theorem dX5_act_34 : decode cX5_act 34 = .ok (.sipush 1000, 3) := by decide +kernel
theorem dX5_act_37 : decode cX5_act 37 = .ok (.invokestatic 76, 3) := by decide +kernel
theorem dX5_act_40 : decode cX5_act 40 = .ok (.ifCond .eq 50, 3) := by decide +kernel
theorem dX5_act_43 : decode cX5_act 43 = .ok (.iload_n 1, 1) := by decide +kernel
theorem dX5_act_44 : decode cX5_act 44 = .ok (.iconst 1, 1) := by decide +kernel
theorem dX5_act_45 : decode cX5_act 45 = .ok (.if_icmp .ne 15, 3) := by decide +kernel
theorem dX5_act_48 : decode cX5_act 48 = .ok (.iload 4, 2) := by decide +kernel
theorem dX5_act_50 : decode cX5_act 50 = .ok (.iconst 0, 1) := by decide +kernel
theorem dX5_act_51 : decode cX5_act 51 = .ok (.sipush 1000, 3) := by decide +kernel
theorem dX5_act_54 : decode cX5_act 54 = .ok (.invokestatic 76, 3) := by decide +kernel
theorem dX5_act_57 : decode cX5_act 57 = .ok (.ifCond .eq 33, 3) := by decide +kernel
theorem dX5_act_60 : decode cX5_act 60 = .ok (.iload_n 1, 1) := by decide +kernel
theorem dX5_act_61 : decode cX5_act 61 = .ok (.iconst 4, 1) := by decide +kernel
theorem dX5_act_62 : decode cX5_act 62 = .ok (.if_icmp .ne 13, 3) := by decide +kernel
theorem dX5_act_65 : decode cX5_act 65 = .ok (.iload_n 3, 1) := by decide +kernel
theorem dX5_act_66 : decode cX5_act 66 = .ok (.iconst 0, 1) := by decide +kernel
theorem dX5_act_67 : decode cX5_act 67 = .ok (.bipush 9, 2) := by decide +kernel
theorem dX5_act_69 : decode cX5_act 69 = .ok (.invokestatic 76, 3) := by decide +kernel
theorem dX5_act_72 : decode cX5_act 72 = .ok (.ifCond .eq 18, 3) := by decide +kernel
theorem dX5_act_75 : decode cX5_act 75 = .ok (.iload_n 1, 1) := by decide +kernel
theorem dX5_act_76 : decode cX5_act 76 = .ok (.iconst 5, 1) := by decide +kernel
theorem dX5_act_77 : decode cX5_act 77 = .ok (.if_icmp .ne 16, 3) := by decide +kernel
theorem dX5_act_80 : decode cX5_act 80 = .ok (.iload_n 3, 1) := by decide +kernel
theorem dX5_act_81 : decode cX5_act 81 = .ok (.iconst 0, 1) := by decide +kernel
theorem dX5_act_82 : decode cX5_act 82 = .ok (.bipush 100, 2) := by decide +kernel
theorem dX5_act_84 : decode cX5_act 84 = .ok (.invokestatic 76, 3) := by decide +kernel
theorem dX5_act_87 : decode cX5_act 87 = .ok (.ifCond .ne 6, 3) := by decide +kernel
theorem dX5_act_90 : decode cX5_act 90 = .ok (.bipush (-3), 2) := by decide +kernel
theorem dX5_act_92 : decode cX5_act 92 = .ok (.ireturn, 1) := by decide +kernel
theorem dX5_act_93 : decode cX5_act 93 = .ok (.aload_n 0, 1) := by decide +kernel
theorem dX5_act_94 : decode cX5_act 94 = .ok (.getfield 95, 3) := by decide +kernel
theorem dX5_act_97 : decode cX5_act 97 = .ok (.bipush 40, 2) := by decide +kernel
theorem dX5_act_99 : decode cX5_act 99 = .ok (.if_icmp .ne 6, 3) := by decide +kernel
theorem dX5_act_102 : decode cX5_act 102 = .ok (.bipush (-4), 2) := by decide +kernel
theorem dX5_act_104 : decode cX5_act 104 = .ok (.ireturn, 1) := by decide +kernel
theorem dX5_act_105 : decode cX5_act 105 = .ok (.aload_n 0, 1) := by decide +kernel
theorem dX5_act_106 : decode cX5_act 106 = .ok (.getfield 31, 3) := by decide +kernel
theorem dX5_act_109 : decode cX5_act 109 = .ok (.aload_n 0, 1) := by decide +kernel
theorem dX5_act_110 : decode cX5_act 110 = .ok (.getfield 95, 3) := by decide +kernel
theorem dX5_act_113 : decode cX5_act 113 = .ok (.iload_n 1, 1) := by decide +kernel
theorem dX5_act_114 : decode cX5_act 114 = .ok (.iastore, 1) := by decide +kernel
theorem dX5_act_115 : decode cX5_act 115 = .ok (.aload_n 0, 1) := by decide +kernel
theorem dX5_act_116 : decode cX5_act 116 = .ok (.getfield 34, 3) := by decide +kernel
theorem dX5_act_119 : decode cX5_act 119 = .ok (.aload_n 0, 1) := by decide +kernel
theorem dX5_act_120 : decode cX5_act 120 = .ok (.getfield 95, 3) := by decide +kernel
theorem dX5_act_123 : decode cX5_act 123 = .ok (.iload_n 1, 1) := by decide +kernel
theorem dX5_act_124 : decode cX5_act 124 = .ok (.bipush 7, 2) := by decide +kernel
theorem dX5_act_126 : decode cX5_act 126 = .ok (.if_icmp .ne 12, 3) := by decide +kernel
theorem dX5_act_129 : decode cX5_act 129 = .ok (.aload_n 0, 1) := by decide +kernel
theorem dX5_act_130 : decode cX5_act 130 = .ok (.getfield 95, 3) := by decide +kernel
end
section
theorem dX5_act_133 : decode cX5_act 133 = .ok (.iconst 1, 1) := by decide +kernel
theorem dX5_act_134 : decode cX5_act 134 = .ok (.isub, 1) := by decide +kernel
theorem dX5_act_135 : decode cX5_act 135 = .ok (.goto 4, 3) := by decide +kernel
theorem dX5_act_138 : decode cX5_act 138 = .ok (.iload_n 2, 1) := by decide +kernel
theorem dX5_act_139 : decode cX5_act 139 = .ok (.iastore, 1) := by decide +kernel
theorem dX5_act_140 : decode cX5_act 140 = .ok (.aload_n 0, 1) := by decide +kernel
theorem dX5_act_141 : decode cX5_act 141 = .ok (.getfield 37, 3) := by decide +kernel
theorem dX5_act_144 : decode cX5_act 144 = .ok (.aload_n 0, 1) := by decide +kernel
theorem dX5_act_145 : decode cX5_act 145 = .ok (.getfield 95, 3) := by decide +kernel
theorem dX5_act_148 : decode cX5_act 148 = .ok (.iload_n 3, 1) := by decide +kernel
theorem dX5_act_149 : decode cX5_act 149 = .ok (.iastore, 1) := by decide +kernel
theorem dX5_act_150 : decode cX5_act 150 = .ok (.aload_n 0, 1) := by decide +kernel
theorem dX5_act_151 : decode cX5_act 151 = .ok (.getfield 40, 3) := by decide +kernel
theorem dX5_act_154 : decode cX5_act 154 = .ok (.aload_n 0, 1) := by decide +kernel
theorem dX5_act_155 : decode cX5_act 155 = .ok (.getfield 95, 3) := by decide +kernel
theorem dX5_act_158 : decode cX5_act 158 = .ok (.iload 4, 2) := by decide +kernel
theorem dX5_act_160 : decode cX5_act 160 = .ok (.iastore, 1) := by decide +kernel
theorem dX5_act_161 : decode cX5_act 161 = .ok (.aload_n 0, 1) := by decide +kernel
theorem dX5_act_162 : decode cX5_act 162 = .ok (.dup, 1) := by decide +kernel
theorem dX5_act_163 : decode cX5_act 163 = .ok (.getfield 95, 3) := by decide +kernel
theorem dX5_act_166 : decode cX5_act 166 = .ok (.iconst 1, 1) := by decide +kernel
theorem dX5_act_167 : decode cX5_act 167 = .ok (.iadd, 1) := by decide +kernel
theorem dX5_act_168 : decode cX5_act 168 = .ok (.putfield 95, 3) := by decide +kernel
theorem dX5_act_171 : decode cX5_act 171 = .ok (.aload_n 0, 1) := by decide +kernel
theorem dX5_act_172 : decode cX5_act 172 = .ok (.getfield 95, 3) := by decide +kernel
theorem dX5_act_175 : decode cX5_act 175 = .ok (.iconst 1, 1) := by decide +kernel
theorem dX5_act_176 : decode cX5_act 176 = .ok (.isub, 1) := by decide +kernel
theorem dX5_act_177 : decode cX5_act 177 = .ok (.ireturn, 1) := by decide +kernel
theorem dX5_call_0 : decode cX5_call 0 = .ok (.aload_n 0, 1) := by decide +kernel
theorem dX5_call_1 : decode cX5_call 1 = .ok (.getfield 111, 3) := by decide +kernel
theorem dX5_call_4 : decode cX5_call 4 = .ok (.sipush 300, 3) := by decide +kernel
theorem dX5_call_7 : decode cX5_call 7 = .ok (.if_icmp .ne 14, 3) := by decide +kernel
theorem dX5_call_10 : decode cX5_call 10 = .ok (.aload_n 0, 1) := by decide +kernel
theorem dX5_call_11 : decode cX5_call 11 = .ok (.iconst 1, 1) := by decide +kernel
theorem dX5_call_12 : decode cX5_call 12 = .ok (.putfield 114, 3) := by decide +kernel
theorem dX5_call_15 : decode cX5_call 15 = .ok (.aload_n 0, 1) := by decide +kernel
theorem dX5_call_16 : decode cX5_call 16 = .ok (.iconst 5, 1) := by decide +kernel
theorem dX5_call_17 : decode cX5_call 17 = .ok (.putfield 118, 3) := by decide +kernel
theorem dX5_call_20 : decode cX5_call 20 = .ok (.return_, 1) := by decide +kernel
theorem dX5_call_21 : decode cX5_call 21 = .ok (.aload_n 0, 1) := by decide +kernel
theorem dX5_call_22 : decode cX5_call 22 = .ok (.dup, 1) := by decide +kernel
theorem dX5_call_23 : decode cX5_call 23 = .ok (.getfield 111, 3) := by decide +kernel
theorem dX5_call_26 : decode cX5_call 26 = .ok (.iconst 1, 1) := by decide +kernel
theorem dX5_call_27 : decode cX5_call 27 = .ok (.iadd, 1) := by decide +kernel
theorem dX5_call_28 : decode cX5_call 28 = .ok (.putfield 111, 3) := by decide +kernel
theorem dX5_call_31 : decode cX5_call 31 = .ok (.aload_n 0, 1) := by decide +kernel
theorem dX5_call_32 : decode cX5_call 32 = .ok (.getfield 58, 3) := by decide +kernel
theorem dX5_call_35 : decode cX5_call 35 = .ok (.aload_n 0, 1) := by decide +kernel
theorem dX5_call_36 : decode cX5_call 36 = .ok (.getfield 121, 3) := by decide +kernel
theorem dX5_call_39 : decode cX5_call 39 = .ok (.iload_n 1, 1) := by decide +kernel
theorem dX5_call_40 : decode cX5_call 40 = .ok (.iastore, 1) := by decide +kernel
theorem dX5_call_41 : decode cX5_call 41 = .ok (.aload_n 0, 1) := by decide +kernel
theorem dX5_call_42 : decode cX5_call 42 = .ok (.getfield 61, 3) := by decide +kernel
theorem dX5_call_45 : decode cX5_call 45 = .ok (.aload_n 0, 1) := by decide +kernel
theorem dX5_call_46 : decode cX5_call 46 = .ok (.getfield 121, 3) := by decide +kernel
theorem dX5_call_49 : decode cX5_call 49 = .ok (.iload_n 2, 1) := by decide +kernel
theorem dX5_call_50 : decode cX5_call 50 = .ok (.iastore, 1) := by decide +kernel
theorem dX5_call_51 : decode cX5_call 51 = .ok (.aload_n 0, 1) := by decide +kernel
theorem dX5_call_52 : decode cX5_call 52 = .ok (.getfield 64, 3) := by decide +kernel
theorem dX5_call_55 : decode cX5_call 55 = .ok (.aload_n 0, 1) := by decide +kernel
theorem dX5_call_56 : decode cX5_call 56 = .ok (.getfield 121, 3) := by decide +kernel
theorem dX5_call_59 : decode cX5_call 59 = .ok (.iconst 0, 1) := by decide +kernel
theorem dX5_call_60 : decode cX5_call 60 = .ok (.iastore, 1) := by decide +kernel
theorem dX5_call_61 : decode cX5_call 61 = .ok (.aload_n 0, 1) := by decide +kernel
theorem dX5_call_62 : decode cX5_call 62 = .ok (.iconst 0, 1) := by decide +kernel
theorem dX5_call_63 : decode cX5_call 63 = .ok (.putfield 114, 3) := by decide +kernel
theorem dX5_call_66 : decode cX5_call 66 = .ok (.aload_n 0, 1) := by decide +kernel
theorem dX5_call_67 : decode cX5_call 67 = .ok (.dup, 1) := by decide +kernel
theorem dX5_call_68 : decode cX5_call 68 = .ok (.getfield 121, 3) := by decide +kernel
theorem dX5_call_71 : decode cX5_call 71 = .ok (.iconst 1, 1) := by decide +kernel
theorem dX5_call_72 : decode cX5_call 72 = .ok (.iadd, 1) := by decide +kernel
theorem dX5_call_73 : decode cX5_call 73 = .ok (.putfield 121, 3) := by decide +kernel
theorem dX5_call_76 : decode cX5_call 76 = .ok (.return_, 1) := by decide +kernel
theorem dX5_ends_0 : decode cX5_ends 0 = .ok (.aload_n 0, 1) := by decide +kernel
theorem dX5_ends_1 : decode cX5_ends 1 = .ok (.dup, 1) := by decide +kernel
theorem dX5_ends_2 : decode cX5_ends 2 = .ok (.getfield 121, 3) := by decide +kernel
theorem dX5_ends_5 : decode cX5_ends 5 = .ok (.iconst 1, 1) := by decide +kernel
theorem dX5_ends_6 : decode cX5_ends 6 = .ok (.isub, 1) := by decide +kernel
theorem dX5_ends_7 : decode cX5_ends 7 = .ok (.putfield 121, 3) := by decide +kernel
theorem dX5_ends_10 : decode cX5_ends 10 = .ok (.aload_n 0, 1) := by decide +kernel
theorem dX5_ends_11 : decode cX5_ends 11 = .ok (.iconst 1, 1) := by decide +kernel
theorem dX5_ends_12 : decode cX5_ends 12 = .ok (.putfield 114, 3) := by decide +kernel
theorem dX5_ends_15 : decode cX5_ends 15 = .ok (.aload_n 0, 1) := by decide +kernel
theorem dX5_ends_16 : decode cX5_ends 16 = .ok (.iload_n 1, 1) := by decide +kernel
theorem dX5_ends_17 : decode cX5_ends 17 = .ok (.putfield 124, 3) := by decide +kernel
theorem dX5_ends_20 : decode cX5_ends 20 = .ok (.aload_n 0, 1) := by decide +kernel
theorem dX5_ends_21 : decode cX5_ends 21 = .ok (.iconst 0, 1) := by decide +kernel
theorem dX5_ends_22 : decode cX5_ends 22 = .ok (.putfield 118, 3) := by decide +kernel
theorem dX5_ends_25 : decode cX5_ends 25 = .ok (.return_, 1) := by decide +kernel
theorem dX5_fails_0 : decode cX5_fails 0 = .ok (.aload_n 0, 1) := by decide +kernel
theorem dX5_fails_1 : decode cX5_fails 1 = .ok (.dup, 1) := by decide +kernel
theorem dX5_fails_2 : decode cX5_fails 2 = .ok (.getfield 121, 3) := by decide +kernel
theorem dX5_fails_5 : decode cX5_fails 5 = .ok (.iconst 1, 1) := by decide +kernel
theorem dX5_fails_6 : decode cX5_fails 6 = .ok (.isub, 1) := by decide +kernel
theorem dX5_fails_7 : decode cX5_fails 7 = .ok (.putfield 121, 3) := by decide +kernel
theorem dX5_fails_10 : decode cX5_fails 10 = .ok (.aload_n 0, 1) := by decide +kernel
theorem dX5_fails_11 : decode cX5_fails 11 = .ok (.iconst 1, 1) := by decide +kernel
theorem dX5_fails_12 : decode cX5_fails 12 = .ok (.putfield 114, 3) := by decide +kernel
theorem dX5_fails_15 : decode cX5_fails 15 = .ok (.aload_n 0, 1) := by decide +kernel
theorem dX5_fails_16 : decode cX5_fails 16 = .ok (.iconst 0, 1) := by decide +kernel
theorem dX5_fails_17 : decode cX5_fails 17 = .ok (.putfield 124, 3) := by decide +kernel
theorem dX5_fails_20 : decode cX5_fails 20 = .ok (.aload_n 0, 1) := by decide +kernel
theorem dX5_fails_21 : decode cX5_fails 21 = .ok (.iload_n 1, 1) := by decide +kernel
theorem dX5_fails_22 : decode cX5_fails 22 = .ok (.putfield 118, 3) := by decide +kernel
theorem dX5_fails_25 : decode cX5_fails 25 = .ok (.return_, 1) := by decide +kernel
set_option maxRecDepth 20000 in
theorem ggX5_goOn_X5_call : GoodIn wsX5_goOn wsX5_call := goodIn_r _ [6, 7, 8, 9, 10, 11, 12, 1, 13, 14, 15, 16, 17, 18, 19, 20, 21, 22, 23, 24, 25, 26, 27, 28, 29, 30, 31, 32, 33, 34, 35, 36, 37, 38, 39, 40, 41, 42, 43, 44, 45, 46, 47, 48] (by decide +kernel) (by decide +kernel)
set_option maxRecDepth 20000 in
theorem gX5_goOn_X5_call : GoodIn wsX5_goOn (wsV RX5 127 RX5 yX5_call wsX5_call) := goodIn_app (goodIn_of _ (by decide +kernel)) ggX5_goOn_X5_call
theorem dX5_goOn_0 : decode cX5_goOn 0 = .ok (.aload_n 0, 1) := by decide +kernel
theorem dX5_goOn_1 : decode cX5_goOn 1 = .ok (.getfield 64, 3) := by decide +kernel
theorem dX5_goOn_4 : decode cX5_goOn 4 = .ok (.iload_n 1, 1) := by decide +kernel
theorem dX5_goOn_5 : decode cX5_goOn 5 = .ok (.aload_n 0, 1) := by decide +kernel
theorem dX5_goOn_6 : decode cX5_goOn 6 = .ok (.getfield 64, 3) := by decide +kernel
theorem dX5_goOn_9 : decode cX5_goOn 9 = .ok (.iload_n 1, 1) := by decide +kernel
theorem dX5_goOn_10 : decode cX5_goOn 10 = .ok (.iaload, 1) := by decide +kernel
theorem dX5_goOn_11 : decode cX5_goOn 11 = .ok (.iconst 1, 1) := by decide +kernel
theorem dX5_goOn_12 : decode cX5_goOn 12 = .ok (.iadd, 1) := by decide +kernel
theorem dX5_goOn_13 : decode cX5_goOn 13 = .ok (.iastore, 1) := by decide +kernel
theorem dX5_goOn_14 : decode cX5_goOn 14 = .ok (.aload_n 0, 1) := by decide +kernel
theorem dX5_goOn_15 : decode cX5_goOn 15 = .ok (.iload_n 2, 1) := by decide +kernel
theorem dX5_goOn_16 : decode cX5_goOn 16 = .ok (.iload_n 3, 1) := by decide +kernel
theorem dX5_goOn_17 : decode cX5_goOn 17 = .ok (.invokevirtual 127, 3) := by decide +kernel
theorem dX5_goOn_20 : decode cX5_goOn 20 = .ok (.return_, 1) := by decide +kernel
set_option maxRecDepth 20000 in
theorem ggX5_go_X5_call : GoodIn wsX5_go wsX5_call := goodIn_r _ [10, 2, 11, 12, 3, 1, 4, 13, 75, 76, 77, 78, 79, 80, 81, 82, 83, 84, 85, 86, 87, 88, 89, 90, 91, 92, 93, 94, 95, 96, 97, 98, 99, 100, 101, 102, 103, 104, 105, 106, 107, 108, 109, 110] (by decide +kernel) (by decide +kernel)
set_option maxRecDepth 20000 in
theorem gX5_go_X5_call : GoodIn wsX5_go (wsV RX5 127 RX5 yX5_call wsX5_call) := goodIn_app (goodIn_of _ (by decide +kernel)) ggX5_go_X5_call
set_option maxRecDepth 20000 in
theorem ggX5_go_X5_goRule : GoodIn wsX5_go wsX5_goRule := goodIn_r _ [17, 18, 13, 19, 12, 20, 21, 22, 23, 24, 25, 9, 26, 27, 28, 29, 30, 31, 32, 1, 11, 33, 34, 35, 36, 37, 38, 39, 40, 41, 42, 43, 44, 45, 46, 6, 7, 8, 10, 2, 3, 4, 47, 48, 49, 50, 75, 76, 77, 78, 79, 80, 81, 82, 83, 84, 85, 86, 87, 88, 89, 90, 91, 92, 93, 94, 95, 96, 97, 98, 99, 100, 101, 102, 103, 104, 105, 106, 107, 108, 109, 110] (by decide +kernel) (by decide +kernel)
set_option maxRecDepth 20000 in
theorem gX5_go_X5_goRule : GoodIn wsX5_go (wsV RX5 131 RX5 yX5_goRule wsX5_goRule) := goodIn_app (goodIn_of _ (by decide +kernel)) ggX5_go_X5_goRule
set_option maxRecDepth 20000 in
theorem ggX5_go_X5_goAct : GoodIn wsX5_go wsX5_goAct := goodIn_r _ [54, 13, 55, 12, 56, 57, 58, 21, 59, 60, 61, 62, 63, 64, 65, 9, 66, 67, 2, 27, 33, 34, 35, 36, 1, 11, 29, 30, 31, 32, 43, 44, 45, 46, 6, 7, 8, 10, 3, 4, 68, 69, 70, 71, 72, 73, 74, 47, 48, 49, 50, 75, 76, 77, 78, 79, 80, 81, 82, 83, 84, 85, 86, 87, 88, 89, 90, 91, 92, 93, 94, 95, 96, 97, 98, 99, 100, 101, 102, 103, 104, 105, 106, 107, 108, 109, 110] (by decide +kernel) (by decide +kernel)
set_option maxRecDepth 20000 in
theorem gX5_go_X5_goAct : GoodIn wsX5_go (wsV RX5 134 RX5 yX5_goAct wsX5_goAct) := goodIn_app (goodIn_of _ (by decide +kernel)) ggX5_go_X5_goAct
theorem dX5_go_0 : decode cX5_go 0 = .ok (.aload_n 0, 1) := by decide +kernel
theorem dX5_go_1 : decode cX5_go 1 = .ok (.iconst 0, 1) := by decide +kernel
theorem dX5_go_2 : decode cX5_go 2 = .ok (.putfield 121, 3) := by decide +kernel
theorem dX5_go_5 : decode cX5_go 5 = .ok (.aload_n 0, 1) := by decide +kernel
theorem dX5_go_6 : decode cX5_go 6 = .ok (.iconst 0, 1) := by decide +kernel
theorem dX5_go_7 : decode cX5_go 7 = .ok (.putfield 111, 3) := by decide +kernel
theorem dX5_go_10 : decode cX5_go 10 = .ok (.aload_n 0, 1) := by decide +kernel
theorem dX5_go_11 : decode cX5_go 11 = .ok (.iload_n 1, 1) := by decide +kernel
theorem dX5_go_12 : decode cX5_go 12 = .ok (.iload_n 2, 1) := by decide +kernel
theorem dX5_go_13 : decode cX5_go 13 = .ok (.invokevirtual 127, 3) := by decide +kernel
theorem dX5_go_16 : decode cX5_go 16 = .ok (.aload_n 0, 1) := by decide +kernel
theorem dX5_go_17 : decode cX5_go 17 = .ok (.getfield 121, 3) := by decide +kernel
theorem dX5_go_20 : decode cX5_go 20 = .ok (.ifCond .le 47, 3) := by decide +kernel
theorem dX5_go_23 : decode cX5_go 23 = .ok (.aload_n 0, 1) := by decide +kernel
theorem dX5_go_24 : decode cX5_go 24 = .ok (.getfield 121, 3) := by decide +kernel
theorem dX5_go_27 : decode cX5_go 27 = .ok (.iconst 1, 1) := by decide +kernel
theorem dX5_go_28 : decode cX5_go 28 = .ok (.isub, 1) := by decide +kernel
theorem dX5_go_29 : decode cX5_go 29 = .ok (.istore_n 3, 1) := by decide +kernel
theorem dX5_go_30 : decode cX5_go 30 = .ok (.aload_n 0, 1) := by decide +kernel
theorem dX5_go_31 : decode cX5_go 31 = .ok (.getfield 58, 3) := by decide +kernel
theorem dX5_go_34 : decode cX5_go 34 = .ok (.iload_n 3, 1) := by decide +kernel
theorem dX5_go_35 : decode cX5_go 35 = .ok (.iaload, 1) := by decide +kernel
theorem dX5_go_36 : decode cX5_go 36 = .ok (.ifCond .ne 17, 3) := by decide +kernel
theorem dX5_go_39 : decode cX5_go 39 = .ok (.aload_n 0, 1) := by decide +kernel
theorem dX5_go_40 : decode cX5_go 40 = .ok (.iload_n 3, 1) := by decide +kernel
theorem dX5_go_41 : decode cX5_go 41 = .ok (.aload_n 0, 1) := by decide +kernel
theorem dX5_go_42 : decode cX5_go 42 = .ok (.getfield 61, 3) := by decide +kernel
theorem dX5_go_45 : decode cX5_go 45 = .ok (.iload_n 3, 1) := by decide +kernel
theorem dX5_go_46 : decode cX5_go 46 = .ok (.iaload, 1) := by decide +kernel
theorem dX5_go_47 : decode cX5_go 47 = .ok (.invokevirtual 131, 3) := by decide +kernel
theorem dX5_go_50 : decode cX5_go 50 = .ok (.goto 14, 3) := by decide +kernel
theorem dX5_go_53 : decode cX5_go 53 = .ok (.aload_n 0, 1) := by decide +kernel
theorem dX5_go_54 : decode cX5_go 54 = .ok (.iload_n 3, 1) := by decide +kernel
theorem dX5_go_55 : decode cX5_go 55 = .ok (.aload_n 0, 1) := by decide +kernel
theorem dX5_go_56 : decode cX5_go 56 = .ok (.getfield 61, 3) := by decide +kernel
theorem dX5_go_59 : decode cX5_go 59 = .ok (.iload_n 3, 1) := by decide +kernel
theorem dX5_go_60 : decode cX5_go 60 = .ok (.iaload, 1) := by decide +kernel
theorem dX5_go_61 : decode cX5_go 61 = .ok (.invokevirtual 134, 3) := by decide +kernel
theorem dX5_go_64 : decode cX5_go 64 = .ok (.goto (-48), 3) := by decide +kernel
theorem dX5_go_67 : decode cX5_go 67 = .ok (.aload_n 0, 1) := by decide +kernel
theorem dX5_go_68 : decode cX5_go 68 = .ok (.dup, 1) := by decide +kernel
theorem dX5_go_69 : decode cX5_go 69 = .ok (.getfield 137, 3) := by decide +kernel
theorem dX5_go_72 : decode cX5_go 72 = .ok (.aload_n 0, 1) := by decide +kernel
theorem dX5_go_73 : decode cX5_go 73 = .ok (.getfield 111, 3) := by decide +kernel
theorem dX5_go_76 : decode cX5_go 76 = .ok (.iadd, 1) := by decide +kernel
theorem dX5_go_77 : decode cX5_go 77 = .ok (.putfield 137, 3) := by decide +kernel
theorem dX5_go_80 : decode cX5_go 80 = .ok (.return_, 1) := by decide +kernel
theorem dX5_passes_0 : decode cX5_passes 0 = .ok (.aload_n 0, 1) := by decide +kernel
theorem dX5_passes_1 : decode cX5_passes 1 = .ok (.dup, 1) := by decide +kernel
theorem dX5_passes_2 : decode cX5_passes 2 = .ok (.getfield 121, 3) := by decide +kernel
theorem dX5_passes_5 : decode cX5_passes 5 = .ok (.iconst 1, 1) := by decide +kernel
theorem dX5_passes_6 : decode cX5_passes 6 = .ok (.isub, 1) := by decide +kernel
theorem dX5_passes_7 : decode cX5_passes 7 = .ok (.putfield 121, 3) := by decide +kernel
theorem dX5_passes_10 : decode cX5_passes 10 = .ok (.return_, 1) := by decide +kernel
set_option maxRecDepth 20000 in
theorem ggX5_goRule_X5_says : GoodIn wsX5_goRule wsX5_says := goodIn_r _ [12, 5, 13, 3, 14, 7, 15, 16, 17, 11, 18, 19, 20, 6, 4, 21, 22, 23, 24, 25, 26, 27, 28, 29, 30, 46, 47, 48, 49, 50, 51, 52, 53, 54, 55, 56, 57, 58, 59, 60, 61, 62, 63, 64, 65, 66, 67, 68, 69, 70, 71, 72, 73, 74, 75, 76, 77, 78, 79, 80, 81] (by decide +kernel) (by decide +kernel)
set_option maxRecDepth 20000 in
theorem gX5_goRule_X5_says : GoodIn wsX5_goRule (wsV RX5 140 RX5 yX5_says wsX5_says) := goodIn_app (goodIn_of _ (by decide +kernel)) ggX5_goRule_X5_says
set_option maxRecDepth 20000 in
theorem ggX5_goRule_X5_goOn : GoodIn wsX5_goRule wsX5_goOn := goodIn_r _ [34, 2, 35, 36, 37, 11, 38, 39, 20, 4, 40, 19, 41, 46, 47, 48, 49, 50, 51, 52, 53, 54, 55, 56, 57, 58, 59, 60, 61, 62, 63, 64, 65, 66, 67, 68, 69, 70, 71, 72, 73, 74, 75, 76, 77, 78, 79, 80, 81] (by decide +kernel) (by decide +kernel)
set_option maxRecDepth 20000 in
theorem gX5_goRule_X5_goOn : GoodIn wsX5_goRule (wsV RX5 143 RX5 yX5_goOn wsX5_goOn) := goodIn_app (goodIn_of _ (by decide +kernel)) ggX5_goRule_X5_goOn
set_option maxRecDepth 20000 in
theorem ggX5_goRule_X5_passes : GoodIn wsX5_goRule wsX5_passes := goodIn_r _ [45, 19, 46, 47, 48, 49, 50, 51, 52, 53, 54, 55, 56, 57, 58, 59, 60, 61, 62, 63, 64, 65, 66, 67, 68, 69, 70, 71, 72, 73, 74, 75, 76, 77, 78, 79, 80, 81] (by decide +kernel) (by decide +kernel)
set_option maxRecDepth 20000 in
theorem gX5_goRule_X5_passes : GoodIn wsX5_goRule (wsV RX5 147 RX5 yX5_passes wsX5_passes) := goodIn_app (goodIn_of _ (by decide +kernel)) ggX5_goRule_X5_passes
set_option maxRecDepth 20000 in
theorem ggX5_goRule_X5_ends : GoodIn wsX5_goRule wsX5_ends := goodIn_r _ [18, 19, 20, 6, 4, 46, 47, 48, 49, 50, 51, 52, 53, 54, 55, 56, 57, 58, 59, 60, 61, 62, 63, 64, 65, 66, 67, 68, 69, 70, 71, 72, 73, 74, 75, 76, 77, 78, 79, 80, 81] (by decide +kernel) (by decide +kernel)
set_option maxRecDepth 20000 in
theorem gX5_goRule_X5_ends : GoodIn wsX5_goRule (wsV RX5 150 RX5 yX5_ends wsX5_ends) := goodIn_app (goodIn_of _ (by decide +kernel)) ggX5_goRule_X5_ends
theorem dX5_goRule_0 : decode cX5_goRule 0 = .ok (.aload_n 0, 1) := by decide +kernel
theorem dX5_goRule_1 : decode cX5_goRule 1 = .ok (.getfield 19, 3) := by decide +kernel
theorem dX5_goRule_4 : decode cX5_goRule 4 = .ok (.iload_n 2, 1) := by decide +kernel
theorem dX5_goRule_5 : decode cX5_goRule 5 = .ok (.iaload, 1) := by decide +kernel
theorem dX5_goRule_6 : decode cX5_goRule 6 = .ok (.istore_n 3, 1) := by decide +kernel
theorem dX5_goRule_7 : decode cX5_goRule 7 = .ok (.aload_n 0, 1) := by decide +kernel
theorem dX5_goRule_8 : decode cX5_goRule 8 = .ok (.getfield 64, 3) := by decide +kernel
theorem dX5_goRule_11 : decode cX5_goRule 11 = .ok (.iload_n 1, 1) := by decide +kernel
theorem dX5_goRule_12 : decode cX5_goRule 12 = .ok (.iaload, 1) := by decide +kernel
theorem dX5_goRule_13 : decode cX5_goRule 13 = .ok (.ifCond .ne 30, 3) := by decide +kernel
theorem dX5_goRule_16 : decode cX5_goRule 16 = .ok (.aload_n 0, 1) := by decide +kernel
theorem dX5_goRule_17 : decode cX5_goRule 17 = .ok (.getfield 16, 3) := by decide +kernel
theorem dX5_goRule_20 : decode cX5_goRule 20 = .ok (.iload_n 2, 1) := by decide +kernel
theorem dX5_goRule_21 : decode cX5_goRule 21 = .ok (.iaload, 1) := by decide +kernel
theorem dX5_goRule_22 : decode cX5_goRule 22 = .ok (.iconst 5, 1) := by decide +kernel
theorem dX5_goRule_23 : decode cX5_goRule 23 = .ok (.if_icmp .ge 12, 3) := by decide +kernel
theorem dX5_goRule_26 : decode cX5_goRule 26 = .ok (.aload_n 0, 1) := by decide +kernel
theorem dX5_goRule_27 : decode cX5_goRule 27 = .ok (.iload_n 2, 1) := by decide +kernel
theorem dX5_goRule_28 : decode cX5_goRule 28 = .ok (.iload_n 3, 1) := by decide +kernel
theorem dX5_goRule_29 : decode cX5_goRule 29 = .ok (.invokevirtual 140, 3) := by decide +kernel
theorem dX5_goRule_32 : decode cX5_goRule 32 = .ok (.goto 10, 3) := by decide +kernel
theorem dX5_goRule_35 : decode cX5_goRule 35 = .ok (.aload_n 0, 1) := by decide +kernel
theorem dX5_goRule_36 : decode cX5_goRule 36 = .ok (.iload_n 1, 1) := by decide +kernel
theorem dX5_goRule_37 : decode cX5_goRule 37 = .ok (.iconst 0, 1) := by decide +kernel
theorem dX5_goRule_38 : decode cX5_goRule 38 = .ok (.iload_n 3, 1) := by decide +kernel
theorem dX5_goRule_39 : decode cX5_goRule 39 = .ok (.invokevirtual 143, 3) := by decide +kernel
theorem dX5_goRule_42 : decode cX5_goRule 42 = .ok (.return_, 1) := by decide +kernel
theorem dX5_goRule_43 : decode cX5_goRule 43 = .ok (.aload_n 0, 1) := by decide +kernel
theorem dX5_goRule_44 : decode cX5_goRule 44 = .ok (.getfield 64, 3) := by decide +kernel
theorem dX5_goRule_47 : decode cX5_goRule 47 = .ok (.iload_n 1, 1) := by decide +kernel
theorem dX5_goRule_48 : decode cX5_goRule 48 = .ok (.iaload, 1) := by decide +kernel
theorem dX5_goRule_49 : decode cX5_goRule 49 = .ok (.iconst 2, 1) := by decide +kernel
theorem dX5_goRule_50 : decode cX5_goRule 50 = .ok (.if_icmp .ne 8, 3) := by decide +kernel
theorem dX5_goRule_53 : decode cX5_goRule 53 = .ok (.aload_n 0, 1) := by decide +kernel
theorem dX5_goRule_54 : decode cX5_goRule 54 = .ok (.invokevirtual 147, 3) := by decide +kernel
theorem dX5_goRule_57 : decode cX5_goRule 57 = .ok (.return_, 1) := by decide +kernel
theorem dX5_goRule_58 : decode cX5_goRule 58 = .ok (.aload_n 0, 1) := by decide +kernel
theorem dX5_goRule_59 : decode cX5_goRule 59 = .ok (.getfield 16, 3) := by decide +kernel
theorem dX5_goRule_62 : decode cX5_goRule 62 = .ok (.iload_n 2, 1) := by decide +kernel
theorem dX5_goRule_63 : decode cX5_goRule 63 = .ok (.iaload, 1) := by decide +kernel
theorem dX5_goRule_64 : decode cX5_goRule 64 = .ok (.bipush 9, 2) := by decide +kernel
theorem dX5_goRule_66 : decode cX5_goRule 66 = .ok (.if_icmp .ne 38, 3) := by decide +kernel
theorem dX5_goRule_69 : decode cX5_goRule 69 = .ok (.aload_n 0, 1) := by decide +kernel
theorem dX5_goRule_70 : decode cX5_goRule 70 = .ok (.getfield 118, 3) := by decide +kernel
theorem dX5_goRule_73 : decode cX5_goRule 73 = .ok (.ifCond .eq 26, 3) := by decide +kernel
theorem dX5_goRule_76 : decode cX5_goRule 76 = .ok (.aload_n 0, 1) := by decide +kernel
theorem dX5_goRule_77 : decode cX5_goRule 77 = .ok (.getfield 118, 3) := by decide +kernel
theorem dX5_goRule_80 : decode cX5_goRule 80 = .ok (.iconst 5, 1) := by decide +kernel
theorem dX5_goRule_81 : decode cX5_goRule 81 = .ok (.if_icmp .eq 18, 3) := by decide +kernel
theorem dX5_goRule_84 : decode cX5_goRule 84 = .ok (.aload_n 0, 1) := by decide +kernel
theorem dX5_goRule_85 : decode cX5_goRule 85 = .ok (.iload_n 1, 1) := by decide +kernel
theorem dX5_goRule_86 : decode cX5_goRule 86 = .ok (.iconst 0, 1) := by decide +kernel
theorem dX5_goRule_87 : decode cX5_goRule 87 = .ok (.aload_n 0, 1) := by decide +kernel
theorem dX5_goRule_88 : decode cX5_goRule 88 = .ok (.getfield 22, 3) := by decide +kernel
theorem dX5_goRule_91 : decode cX5_goRule 91 = .ok (.iload_n 2, 1) := by decide +kernel
theorem dX5_goRule_92 : decode cX5_goRule 92 = .ok (.iaload, 1) := by decide +kernel
theorem dX5_goRule_93 : decode cX5_goRule 93 = .ok (.invokevirtual 143, 3) := by decide +kernel
theorem dX5_goRule_96 : decode cX5_goRule 96 = .ok (.goto 7, 3) := by decide +kernel
theorem dX5_goRule_99 : decode cX5_goRule 99 = .ok (.aload_n 0, 1) := by decide +kernel
theorem dX5_goRule_100 : decode cX5_goRule 100 = .ok (.invokevirtual 147, 3) := by decide +kernel
theorem dX5_goRule_103 : decode cX5_goRule 103 = .ok (.return_, 1) := by decide +kernel
theorem dX5_goRule_104 : decode cX5_goRule 104 = .ok (.aload_n 0, 1) := by decide +kernel
theorem dX5_goRule_105 : decode cX5_goRule 105 = .ok (.getfield 118, 3) := by decide +kernel
theorem dX5_goRule_108 : decode cX5_goRule 108 = .ok (.ifCond .eq 8, 3) := by decide +kernel
theorem dX5_goRule_111 : decode cX5_goRule 111 = .ok (.aload_n 0, 1) := by decide +kernel
theorem dX5_goRule_112 : decode cX5_goRule 112 = .ok (.invokevirtual 147, 3) := by decide +kernel
theorem dX5_goRule_115 : decode cX5_goRule 115 = .ok (.return_, 1) := by decide +kernel
theorem dX5_goRule_116 : decode cX5_goRule 116 = .ok (.aload_n 0, 1) := by decide +kernel
theorem dX5_goRule_117 : decode cX5_goRule 117 = .ok (.getfield 16, 3) := by decide +kernel
theorem dX5_goRule_120 : decode cX5_goRule 120 = .ok (.iload_n 2, 1) := by decide +kernel
theorem dX5_goRule_121 : decode cX5_goRule 121 = .ok (.iaload, 1) := by decide +kernel
theorem dX5_goRule_122 : decode cX5_goRule 122 = .ok (.tableswitch 84 5 7 #[26, 39, 39], 26) := by decide +kernel
theorem dX5_goRule_148 : decode cX5_goRule 148 = .ok (.aload_n 0, 1) := by decide +kernel
theorem dX5_goRule_149 : decode cX5_goRule 149 = .ok (.iconst 1, 1) := by decide +kernel
theorem dX5_goRule_150 : decode cX5_goRule 150 = .ok (.aload_n 0, 1) := by decide +kernel
theorem dX5_goRule_151 : decode cX5_goRule 151 = .ok (.getfield 124, 3) := by decide +kernel
theorem dX5_goRule_154 : decode cX5_goRule 154 = .ok (.isub, 1) := by decide +kernel
theorem dX5_goRule_155 : decode cX5_goRule 155 = .ok (.invokevirtual 150, 3) := by decide +kernel
theorem dX5_goRule_158 : decode cX5_goRule 158 = .ok (.goto 85, 3) := by decide +kernel
theorem dX5_goRule_161 : decode cX5_goRule 161 = .ok (.aload_n 0, 1) := by decide +kernel
theorem dX5_goRule_162 : decode cX5_goRule 162 = .ok (.getfield 124, 3) := by decide +kernel
theorem dX5_goRule_165 : decode cX5_goRule 165 = .ok (.aload_n 0, 1) := by decide +kernel
theorem dX5_goRule_166 : decode cX5_goRule 166 = .ok (.getfield 16, 3) := by decide +kernel
theorem dX5_goRule_169 : decode cX5_goRule 169 = .ok (.iload_n 2, 1) := by decide +kernel
theorem dX5_goRule_170 : decode cX5_goRule 170 = .ok (.iaload, 1) := by decide +kernel
theorem dX5_goRule_171 : decode cX5_goRule 171 = .ok (.bipush 6, 2) := by decide +kernel
theorem dX5_goRule_173 : decode cX5_goRule 173 = .ok (.if_icmp .ne 7, 3) := by decide +kernel
theorem dX5_goRule_176 : decode cX5_goRule 176 = .ok (.iconst 1, 1) := by decide +kernel
theorem dX5_goRule_177 : decode cX5_goRule 177 = .ok (.goto 4, 3) := by decide +kernel
theorem dX5_goRule_180 : decode cX5_goRule 180 = .ok (.iconst 0, 1) := by decide +kernel
theorem dX5_goRule_181 : decode cX5_goRule 181 = .ok (.if_icmp .ne 18, 3) := by decide +kernel
theorem dX5_goRule_184 : decode cX5_goRule 184 = .ok (.aload_n 0, 1) := by decide +kernel
theorem dX5_goRule_185 : decode cX5_goRule 185 = .ok (.iload_n 1, 1) := by decide +kernel
theorem dX5_goRule_186 : decode cX5_goRule 186 = .ok (.iconst 0, 1) := by decide +kernel
theorem dX5_goRule_187 : decode cX5_goRule 187 = .ok (.aload_n 0, 1) := by decide +kernel
theorem dX5_goRule_188 : decode cX5_goRule 188 = .ok (.getfield 22, 3) := by decide +kernel
theorem dX5_goRule_191 : decode cX5_goRule 191 = .ok (.iload_n 2, 1) := by decide +kernel
theorem dX5_goRule_192 : decode cX5_goRule 192 = .ok (.iaload, 1) := by decide +kernel
theorem dX5_goRule_193 : decode cX5_goRule 193 = .ok (.invokevirtual 143, 3) := by decide +kernel
theorem dX5_goRule_196 : decode cX5_goRule 196 = .ok (.goto 47, 3) := by decide +kernel
theorem dX5_goRule_199 : decode cX5_goRule 199 = .ok (.aload_n 0, 1) := by decide +kernel
theorem dX5_goRule_200 : decode cX5_goRule 200 = .ok (.invokevirtual 147, 3) := by decide +kernel
theorem dX5_goRule_203 : decode cX5_goRule 203 = .ok (.goto 40, 3) := by decide +kernel
theorem dX5_goRule_206 : decode cX5_goRule 206 = .ok (.aload_n 0, 1) := by decide +kernel
theorem dX5_goRule_207 : decode cX5_goRule 207 = .ok (.getfield 28, 3) := by decide +kernel
theorem dX5_goRule_210 : decode cX5_goRule 210 = .ok (.iload_n 2, 1) := by decide +kernel
theorem dX5_goRule_211 : decode cX5_goRule 211 = .ok (.dup2, 1) := by decide +kernel
theorem dX5_goRule_212 : decode cX5_goRule 212 = .ok (.iaload, 1) := by decide +kernel
theorem dX5_goRule_213 : decode cX5_goRule 213 = .ok (.aload_n 0, 1) := by decide +kernel
theorem dX5_goRule_214 : decode cX5_goRule 214 = .ok (.getfield 124, 3) := by decide +kernel
theorem dX5_goRule_217 : decode cX5_goRule 217 = .ok (.iadd, 1) := by decide +kernel
theorem dX5_goRule_218 : decode cX5_goRule 218 = .ok (.iastore, 1) := by decide +kernel
theorem dX5_goRule_219 : decode cX5_goRule 219 = .ok (.aload_n 0, 1) := by decide +kernel
theorem dX5_goRule_220 : decode cX5_goRule 220 = .ok (.aload_n 0, 1) := by decide +kernel
theorem dX5_goRule_221 : decode cX5_goRule 221 = .ok (.getfield 28, 3) := by decide +kernel
theorem dX5_goRule_224 : decode cX5_goRule 224 = .ok (.iload_n 2, 1) := by decide +kernel
theorem dX5_goRule_225 : decode cX5_goRule 225 = .ok (.iaload, 1) := by decide +kernel
theorem dX5_goRule_226 : decode cX5_goRule 226 = .ok (.aload_n 0, 1) := by decide +kernel
theorem dX5_goRule_227 : decode cX5_goRule 227 = .ok (.getfield 22, 3) := by decide +kernel
theorem dX5_goRule_230 : decode cX5_goRule 230 = .ok (.iload_n 2, 1) := by decide +kernel
theorem dX5_goRule_231 : decode cX5_goRule 231 = .ok (.iaload, 1) := by decide +kernel
theorem dX5_goRule_232 : decode cX5_goRule 232 = .ok (.if_icmp .lt 7, 3) := by decide +kernel
theorem dX5_goRule_235 : decode cX5_goRule 235 = .ok (.iconst 1, 1) := by decide +kernel
theorem dX5_goRule_236 : decode cX5_goRule 236 = .ok (.goto 4, 3) := by decide +kernel
theorem dX5_goRule_239 : decode cX5_goRule 239 = .ok (.iconst 0, 1) := by decide +kernel
theorem dX5_goRule_240 : decode cX5_goRule 240 = .ok (.invokevirtual 150, 3) := by decide +kernel
theorem dX5_goRule_243 : decode cX5_goRule 243 = .ok (.return_, 1) := by decide +kernel
set_option maxRecDepth 20000 in
theorem ggX5_says_X5_ends : GoodIn wsX5_says wsX5_ends := goodIn_r _ [10, 11, 12, 13, 14, 25, 26, 27, 28, 29, 30, 31, 32, 33, 34, 35, 36, 37, 38, 39, 40, 41, 42, 43, 44, 45, 46, 47, 48, 49, 50, 51, 52, 53, 54, 55, 56, 57, 58, 59, 60] (by decide +kernel) (by decide +kernel)
set_option maxRecDepth 20000 in
theorem gX5_says_X5_ends : GoodIn wsX5_says (wsV RX5 150 RX5 yX5_ends wsX5_ends) := goodIn_app (goodIn_of _ (by decide +kernel)) ggX5_says_X5_ends
set_option maxRecDepth 20000 in
theorem ggX5_says_X5_fails : GoodIn wsX5_says wsX5_fails := goodIn_r _ [18, 11, 12, 13, 14, 25, 26, 27, 28, 29, 30, 31, 32, 33, 34, 35, 36, 37, 38, 39, 40, 41, 42, 43, 44, 45, 46, 47, 48, 49, 50, 51, 52, 53, 54, 55, 56, 57, 58, 59, 60] (by decide +kernel) (by decide +kernel)
set_option maxRecDepth 20000 in
theorem gX5_says_X5_fails : GoodIn wsX5_says (wsV RX5 154 RX5 yX5_fails wsX5_fails) := goodIn_app (goodIn_of _ (by decide +kernel)) ggX5_says_X5_fails
set_option maxRecDepth 20000 in
theorem ggX5_says_X5_isSensor : GoodIn wsX5_says wsX5_isSensor := goodIn_r _ [21, 22, 23, 9, 24] (by decide +kernel) (by decide +kernel)
set_option maxRecDepth 20000 in
theorem gX5_says_X5_isSensor : GoodIn wsX5_says (va_wsS RX5 80 yX5_isSensor wsX5_isSensor) := goodIn_app (goodIn_of _ (by decide +kernel)) ggX5_says_X5_isSensor
theorem dX5_says_0 : decode cX5_says 0 = .ok (.aload_n 0, 1) := by decide +kernel
theorem dX5_says_1 : decode cX5_says 1 = .ok (.getfield 22, 3) := by decide +kernel
theorem dX5_says_4 : decode cX5_says 4 = .ok (.iload_n 1, 1) := by decide +kernel
theorem dX5_says_5 : decode cX5_says 5 = .ok (.iaload, 1) := by decide +kernel
theorem dX5_says_6 : decode cX5_says 6 = .ok (.istore_n 3, 1) := by decide +kernel
theorem dX5_says_7 : decode cX5_says 7 = .ok (.aload_n 0, 1) := by decide +kernel
theorem dX5_says_8 : decode cX5_says 8 = .ok (.getfield 7, 3) := by decide +kernel
theorem dX5_says_11 : decode cX5_says 11 = .ok (.iload_n 2, 1) := by decide +kernel
theorem dX5_says_12 : decode cX5_says 12 = .ok (.iaload, 1) := by decide +kernel
theorem dX5_says_13 : decode cX5_says 13 = .ok (.istore 4, 2) := by decide +kernel
theorem dX5_says_15 : decode cX5_says 15 = .ok (.aload_n 0, 1) := by decide +kernel
theorem dX5_says_16 : decode cX5_says 16 = .ok (.getfield 16, 3) := by decide +kernel
theorem dX5_says_19 : decode cX5_says 19 = .ok (.iload_n 1, 1) := by decide +kernel
theorem dX5_says_20 : decode cX5_says 20 = .ok (.iaload, 1) := by decide +kernel
theorem dX5_says_21 : decode cX5_says 21 = .ok (.tableswitch 165 0 3 #[31, 49, 95, 118], 31) := by decide +kernel
theorem dX5_says_52 : decode cX5_says 52 = .ok (.aload_n 0, 1) := by decide +kernel
theorem dX5_says_53 : decode cX5_says 53 = .ok (.iload 4, 2) := by decide +kernel
theorem dX5_says_55 : decode cX5_says 55 = .ok (.iload_n 3, 1) := by decide +kernel
theorem dX5_says_56 : decode cX5_says 56 = .ok (.if_icmp .le 7, 3) := by decide +kernel
theorem dX5_says_59 : decode cX5_says 59 = .ok (.iconst 1, 1) := by decide +kernel
theorem dX5_says_60 : decode cX5_says 60 = .ok (.goto 4, 3) := by decide +kernel
theorem dX5_says_63 : decode cX5_says 63 = .ok (.iconst 0, 1) := by decide +kernel
theorem dX5_says_64 : decode cX5_says 64 = .ok (.invokevirtual 150, 3) := by decide +kernel
theorem dX5_says_67 : decode cX5_says 67 = .ok (.goto 155, 3) := by decide +kernel
theorem dX5_says_70 : decode cX5_says 70 = .ok (.iload 4, 2) := by decide +kernel
theorem dX5_says_72 : decode cX5_says 72 = .ok (.i2l, 1) := by decide +kernel
theorem dX5_says_73 : decode cX5_says 73 = .ok (.iload_n 3, 1) := by decide +kernel
theorem dX5_says_74 : decode cX5_says 74 = .ok (.i2l, 1) := by decide +kernel
theorem dX5_says_75 : decode cX5_says 75 = .ok (.lsub, 1) := by decide +kernel
theorem dX5_says_76 : decode cX5_says 76 = .ok (.lstore 5, 2) := by decide +kernel
theorem dX5_says_78 : decode cX5_says 78 = .ok (.aload_n 0, 1) := by decide +kernel
theorem dX5_says_79 : decode cX5_says 79 = .ok (.lload 5, 2) := by decide +kernel
theorem dX5_says_81 : decode cX5_says 81 = .ok (.lconst 0, 1) := by decide +kernel
theorem dX5_says_82 : decode cX5_says 82 = .ok (.lcmp, 1) := by decide +kernel
theorem dX5_says_83 : decode cX5_says 83 = .ok (.ifCond .ge 9, 3) := by decide +kernel
theorem dX5_says_86 : decode cX5_says 86 = .ok (.lload 5, 2) := by decide +kernel
theorem dX5_says_88 : decode cX5_says 88 = .ok (.lneg, 1) := by decide +kernel
theorem dX5_says_89 : decode cX5_says 89 = .ok (.goto 5, 3) := by decide +kernel
theorem dX5_says_92 : decode cX5_says 92 = .ok (.lload 5, 2) := by decide +kernel
theorem dX5_says_94 : decode cX5_says 94 = .ok (.aload_n 0, 1) := by decide +kernel
theorem dX5_says_95 : decode cX5_says 95 = .ok (.getfield 25, 3) := by decide +kernel
theorem dX5_says_98 : decode cX5_says 98 = .ok (.iload_n 1, 1) := by decide +kernel
theorem dX5_says_99 : decode cX5_says 99 = .ok (.iaload, 1) := by decide +kernel
theorem dX5_says_100 : decode cX5_says 100 = .ok (.i2l, 1) := by decide +kernel
theorem dX5_says_101 : decode cX5_says 101 = .ok (.lcmp, 1) := by decide +kernel
theorem dX5_says_102 : decode cX5_says 102 = .ok (.ifCond .gt 7, 3) := by decide +kernel
theorem dX5_says_105 : decode cX5_says 105 = .ok (.iconst 1, 1) := by decide +kernel
theorem dX5_says_106 : decode cX5_says 106 = .ok (.goto 4, 3) := by decide +kernel
theorem dX5_says_109 : decode cX5_says 109 = .ok (.iconst 0, 1) := by decide +kernel
theorem dX5_says_110 : decode cX5_says 110 = .ok (.invokevirtual 150, 3) := by decide +kernel
theorem dX5_says_113 : decode cX5_says 113 = .ok (.goto 109, 3) := by decide +kernel
theorem dX5_says_116 : decode cX5_says 116 = .ok (.aload_n 0, 1) := by decide +kernel
theorem dX5_says_117 : decode cX5_says 117 = .ok (.iload 4, 2) := by decide +kernel
theorem dX5_says_119 : decode cX5_says 119 = .ok (.aload_n 0, 1) := by decide +kernel
theorem dX5_says_120 : decode cX5_says 120 = .ok (.getfield 28, 3) := by decide +kernel
theorem dX5_says_123 : decode cX5_says 123 = .ok (.iload_n 1, 1) := by decide +kernel
theorem dX5_says_124 : decode cX5_says 124 = .ok (.iaload, 1) := by decide +kernel
theorem dX5_says_125 : decode cX5_says 125 = .ok (.if_icmp .eq 7, 3) := by decide +kernel
theorem dX5_says_128 : decode cX5_says 128 = .ok (.iconst 1, 1) := by decide +kernel
theorem dX5_says_129 : decode cX5_says 129 = .ok (.goto 4, 3) := by decide +kernel
theorem dX5_says_132 : decode cX5_says 132 = .ok (.iconst 0, 1) := by decide +kernel
theorem dX5_says_133 : decode cX5_says 133 = .ok (.invokevirtual 150, 3) := by decide +kernel
theorem dX5_says_136 : decode cX5_says 136 = .ok (.goto 86, 3) := by decide +kernel
theorem dX5_says_139 : decode cX5_says 139 = .ok (.aload_n 0, 1) := by decide +kernel
theorem dX5_says_140 : decode cX5_says 140 = .ok (.getfield 7, 3) := by decide +kernel
theorem dX5_says_143 : decode cX5_says 143 = .ok (.iload_n 3, 1) := by decide +kernel
theorem dX5_says_144 : decode cX5_says 144 = .ok (.iaload, 1) := by decide +kernel
theorem dX5_says_145 : decode cX5_says 145 = .ok (.ifCond .ne 11, 3) := by decide +kernel
theorem dX5_says_148 : decode cX5_says 148 = .ok (.aload_n 0, 1) := by decide +kernel
theorem dX5_says_149 : decode cX5_says 149 = .ok (.iconst 1, 1) := by decide +kernel
theorem dX5_says_150 : decode cX5_says 150 = .ok (.invokevirtual 154, 3) := by decide +kernel
theorem dX5_says_153 : decode cX5_says 153 = .ok (.goto 69, 3) := by decide +kernel
theorem dX5_says_156 : decode cX5_says 156 = .ok (.aload_n 0, 1) := by decide +kernel
theorem dX5_says_157 : decode cX5_says 157 = .ok (.iload 4, 2) := by decide +kernel
theorem dX5_says_159 : decode cX5_says 159 = .ok (.aload_n 0, 1) := by decide +kernel
theorem dX5_says_160 : decode cX5_says 160 = .ok (.getfield 7, 3) := by decide +kernel
theorem dX5_says_163 : decode cX5_says 163 = .ok (.iload_n 3, 1) := by decide +kernel
theorem dX5_says_164 : decode cX5_says 164 = .ok (.iaload, 1) := by decide +kernel
theorem dX5_says_165 : decode cX5_says 165 = .ok (.idiv, 1) := by decide +kernel
theorem dX5_says_166 : decode cX5_says 166 = .ok (.aload_n 0, 1) := by decide +kernel
theorem dX5_says_167 : decode cX5_says 167 = .ok (.getfield 25, 3) := by decide +kernel
theorem dX5_says_170 : decode cX5_says 170 = .ok (.iload_n 1, 1) := by decide +kernel
theorem dX5_says_171 : decode cX5_says 171 = .ok (.iaload, 1) := by decide +kernel
theorem dX5_says_172 : decode cX5_says 172 = .ok (.if_icmp .lt 7, 3) := by decide +kernel
theorem dX5_says_175 : decode cX5_says 175 = .ok (.iconst 1, 1) := by decide +kernel
theorem dX5_says_176 : decode cX5_says 176 = .ok (.goto 4, 3) := by decide +kernel
theorem dX5_says_179 : decode cX5_says 179 = .ok (.iconst 0, 1) := by decide +kernel
theorem dX5_says_180 : decode cX5_says 180 = .ok (.invokevirtual 150, 3) := by decide +kernel
theorem dX5_says_183 : decode cX5_says 183 = .ok (.goto 39, 3) := by decide +kernel
theorem dX5_says_186 : decode cX5_says 186 = .ok (.iload 4, 2) := by decide +kernel
theorem dX5_says_188 : decode cX5_says 188 = .ok (.invokestatic 80, 3) := by decide +kernel
theorem dX5_says_191 : decode cX5_says 191 = .ok (.ifCond .ne 11, 3) := by decide +kernel
theorem dX5_says_194 : decode cX5_says 194 = .ok (.aload_n 0, 1) := by decide +kernel
theorem dX5_says_195 : decode cX5_says 195 = .ok (.iconst 2, 1) := by decide +kernel
theorem dX5_says_196 : decode cX5_says 196 = .ok (.invokevirtual 154, 3) := by decide +kernel
theorem dX5_says_199 : decode cX5_says 199 = .ok (.goto 23, 3) := by decide +kernel
theorem dX5_says_202 : decode cX5_says 202 = .ok (.aload_n 0, 1) := by decide +kernel
theorem dX5_says_203 : decode cX5_says 203 = .ok (.aload_n 0, 1) := by decide +kernel
theorem dX5_says_204 : decode cX5_says 204 = .ok (.getfield 7, 3) := by decide +kernel
theorem dX5_says_207 : decode cX5_says 207 = .ok (.iload 4, 2) := by decide +kernel
theorem dX5_says_209 : decode cX5_says 209 = .ok (.iaload, 1) := by decide +kernel
theorem dX5_says_210 : decode cX5_says 210 = .ok (.iload_n 3, 1) := by decide +kernel
theorem dX5_says_211 : decode cX5_says 211 = .ok (.if_icmp .le 7, 3) := by decide +kernel
theorem dX5_says_214 : decode cX5_says 214 = .ok (.iconst 1, 1) := by decide +kernel
theorem dX5_says_215 : decode cX5_says 215 = .ok (.goto 4, 3) := by decide +kernel
theorem dX5_says_218 : decode cX5_says 218 = .ok (.iconst 0, 1) := by decide +kernel
theorem dX5_says_219 : decode cX5_says 219 = .ok (.invokevirtual 150, 3) := by decide +kernel
theorem dX5_says_222 : decode cX5_says 222 = .ok (.return_, 1) := by decide +kernel
set_option maxRecDepth 20000 in
theorem ggX5_goAct_X5_begins : GoodIn wsX5_goAct wsX5_begins := goodIn_r _ [16, 11, 6, 8, 9, 10, 2, 4, 17, 5, 18, 19, 20, 21, 22, 15, 23, 24, 25, 7, 3, 26, 27, 28, 29, 30, 31, 32, 33, 1, 34, 35, 36, 37, 38, 39, 40, 41, 42, 43, 44, 45, 46, 51, 52, 53, 54, 55, 56, 57, 58, 59, 60, 61, 62, 63, 64, 65, 66, 67, 68, 69, 70, 71, 72, 73, 74, 75, 76, 77, 78, 79, 80, 81, 82, 83, 84, 85, 86] (by decide +kernel) (by decide +kernel)
set_option maxRecDepth 20000 in
theorem gX5_goAct_X5_begins : GoodIn wsX5_goAct (wsV RX5 157 RX5 yX5_begins wsX5_begins) := goodIn_app (goodIn_of _ (by decide +kernel)) ggX5_goAct_X5_begins
set_option maxRecDepth 20000 in
theorem ggX5_goAct_X5_goOn : GoodIn wsX5_goAct wsX5_goOn := goodIn_r _ [33, 1, 34, 35, 36, 15, 37, 18, 25, 3, 38, 24, 39, 51, 52, 53, 54, 55, 56, 57, 58, 59, 60, 61, 62, 63, 64, 65, 66, 67, 68, 69, 70, 71, 72, 73, 74, 75, 76, 77, 78, 79, 80, 81, 82, 83, 84, 85, 86] (by decide +kernel) (by decide +kernel)
set_option maxRecDepth 20000 in
theorem gX5_goAct_X5_goOn : GoodIn wsX5_goAct (wsV RX5 143 RX5 yX5_goOn wsX5_goOn) := goodIn_app (goodIn_of _ (by decide +kernel)) ggX5_goAct_X5_goOn
set_option maxRecDepth 20000 in
theorem ggX5_goAct_X5_passes : GoodIn wsX5_goAct wsX5_passes := goodIn_r _ [50, 24, 51, 52, 53, 54, 55, 56, 57, 58, 59, 60, 61, 62, 63, 64, 65, 66, 67, 68, 69, 70, 71, 72, 73, 74, 75, 76, 77, 78, 79, 80, 81, 82, 83, 84, 85, 86] (by decide +kernel) (by decide +kernel)
set_option maxRecDepth 20000 in
theorem gX5_goAct_X5_passes : GoodIn wsX5_goAct (wsV RX5 147 RX5 yX5_passes wsX5_passes) := goodIn_app (goodIn_of _ (by decide +kernel)) ggX5_goAct_X5_passes
set_option maxRecDepth 20000 in
theorem ggX5_goAct_X5_ends : GoodIn wsX5_goAct wsX5_ends := goodIn_r _ [29, 24, 25, 7, 3, 51, 52, 53, 54, 55, 56, 57, 58, 59, 60, 61, 62, 63, 64, 65, 66, 67, 68, 69, 70, 71, 72, 73, 74, 75, 76, 77, 78, 79, 80, 81, 82, 83, 84, 85, 86] (by decide +kernel) (by decide +kernel)
set_option maxRecDepth 20000 in
theorem gX5_goAct_X5_ends : GoodIn wsX5_goAct (wsV RX5 150 RX5 yX5_ends wsX5_ends) := goodIn_app (goodIn_of _ (by decide +kernel)) ggX5_goAct_X5_ends
theorem dX5_goAct_0 : decode cX5_goAct 0 = .ok (.aload_n 0, 1) := by decide +kernel
theorem dX5_goAct_1 : decode cX5_goAct 1 = .ok (.getfield 64, 3) := by decide +kernel
theorem dX5_goAct_4 : decode cX5_goAct 4 = .ok (.iload_n 1, 1) := by decide +kernel
theorem dX5_goAct_5 : decode cX5_goAct 5 = .ok (.iaload, 1) := by decide +kernel
theorem dX5_goAct_6 : decode cX5_goAct 6 = .ok (.ifCond .ne 10, 3) := by decide +kernel
theorem dX5_goAct_9 : decode cX5_goAct 9 = .ok (.aload_n 0, 1) := by decide +kernel
theorem dX5_goAct_10 : decode cX5_goAct 10 = .ok (.iload_n 1, 1) := by decide +kernel
theorem dX5_goAct_11 : decode cX5_goAct 11 = .ok (.iload_n 2, 1) := by decide +kernel
theorem dX5_goAct_12 : decode cX5_goAct 12 = .ok (.invokevirtual 157, 3) := by decide +kernel
theorem dX5_goAct_15 : decode cX5_goAct 15 = .ok (.return_, 1) := by decide +kernel
theorem dX5_goAct_16 : decode cX5_goAct 16 = .ok (.aload_n 0, 1) := by decide +kernel
theorem dX5_goAct_17 : decode cX5_goAct 17 = .ok (.getfield 31, 3) := by decide +kernel
theorem dX5_goAct_20 : decode cX5_goAct 20 = .ok (.iload_n 2, 1) := by decide +kernel
theorem dX5_goAct_21 : decode cX5_goAct 21 = .ok (.iaload, 1) := by decide +kernel
theorem dX5_goAct_22 : decode cX5_goAct 22 = .ok (.istore_n 3, 1) := by decide +kernel
theorem dX5_goAct_23 : decode cX5_goAct 23 = .ok (.iload_n 3, 1) := by decide +kernel
theorem dX5_goAct_24 : decode cX5_goAct 24 = .ok (.bipush 6, 2) := by decide +kernel
theorem dX5_goAct_26 : decode cX5_goAct 26 = .ok (.if_icmp .ne 76, 3) := by decide +kernel
theorem dX5_goAct_29 : decode cX5_goAct 29 = .ok (.aload_n 0, 1) := by decide +kernel
theorem dX5_goAct_30 : decode cX5_goAct 30 = .ok (.getfield 64, 3) := by decide +kernel
theorem dX5_goAct_33 : decode cX5_goAct 33 = .ok (.iload_n 1, 1) := by decide +kernel
theorem dX5_goAct_34 : decode cX5_goAct 34 = .ok (.iaload, 1) := by decide +kernel
theorem dX5_goAct_35 : decode cX5_goAct 35 = .ok (.iconst 1, 1) := by decide +kernel
theorem dX5_goAct_36 : decode cX5_goAct 36 = .ok (.if_icmp .ne 66, 3) := by decide +kernel
theorem dX5_goAct_39 : decode cX5_goAct 39 = .ok (.aload_n 0, 1) := by decide +kernel
theorem dX5_goAct_40 : decode cX5_goAct 40 = .ok (.getfield 118, 3) := by decide +kernel
theorem dX5_goAct_43 : decode cX5_goAct 43 = .ok (.ifCond .eq 59, 3) := by decide +kernel
theorem dX5_goAct_46 : decode cX5_goAct 46 = .ok (.aload_n 0, 1) := by decide +kernel
theorem dX5_goAct_47 : decode cX5_goAct 47 = .ok (.getfield 118, 3) := by decide +kernel
theorem dX5_goAct_50 : decode cX5_goAct 50 = .ok (.iconst 5, 1) := by decide +kernel
theorem dX5_goAct_51 : decode cX5_goAct 51 = .ok (.if_icmp .eq 51, 3) := by decide +kernel
theorem dX5_goAct_54 : decode cX5_goAct 54 = .ok (.iconst 0, 1) := by decide +kernel
theorem dX5_goAct_55 : decode cX5_goAct 55 = .ok (.istore 4, 2) := by decide +kernel
theorem dX5_goAct_57 : decode cX5_goAct 57 = .ok (.iload 4, 2) := by decide +kernel
theorem dX5_goAct_59 : decode cX5_goAct 59 = .ok (.bipush 6, 2) := by decide +kernel
theorem dX5_goAct_61 : decode cX5_goAct 61 = .ok (.if_icmp .ge 28, 3) := by decide +kernel
theorem dX5_goAct_64 : decode cX5_goAct 64 = .ok (.aload_n 0, 1) := by decide +kernel
theorem dX5_goAct_65 : decode cX5_goAct 65 = .ok (.getfield 13, 3) := by decide +kernel
theorem dX5_goAct_68 : decode cX5_goAct 68 = .ok (.iload 4, 2) := by decide +kernel
theorem dX5_goAct_70 : decode cX5_goAct 70 = .ok (.aload_n 0, 1) := by decide +kernel
theorem dX5_goAct_71 : decode cX5_goAct 71 = .ok (.getfield 73, 3) := by decide +kernel
theorem dX5_goAct_74 : decode cX5_goAct 74 = .ok (.bipush 6, 2) := by decide +kernel
theorem dX5_goAct_76 : decode cX5_goAct 76 = .ok (.iload_n 1, 1) := by decide +kernel
theorem dX5_goAct_77 : decode cX5_goAct 77 = .ok (.imul, 1) := by decide +kernel
theorem dX5_goAct_78 : decode cX5_goAct 78 = .ok (.iload 4, 2) := by decide +kernel
theorem dX5_goAct_80 : decode cX5_goAct 80 = .ok (.iadd, 1) := by decide +kernel
theorem dX5_goAct_81 : decode cX5_goAct 81 = .ok (.iaload, 1) := by decide +kernel
theorem dX5_goAct_82 : decode cX5_goAct 82 = .ok (.iastore, 1) := by decide +kernel
theorem dX5_goAct_83 : decode cX5_goAct 83 = .ok (.iinc 4 1, 3) := by decide +kernel
theorem dX5_goAct_86 : decode cX5_goAct 86 = .ok (.goto (-29), 3) := by decide +kernel
theorem dX5_goAct_89 : decode cX5_goAct 89 = .ok (.aload_n 0, 1) := by decide +kernel
theorem dX5_goAct_90 : decode cX5_goAct 90 = .ok (.iload_n 1, 1) := by decide +kernel
theorem dX5_goAct_91 : decode cX5_goAct 91 = .ok (.iconst 1, 1) := by decide +kernel
theorem dX5_goAct_92 : decode cX5_goAct 92 = .ok (.aload_n 0, 1) := by decide +kernel
theorem dX5_goAct_93 : decode cX5_goAct 93 = .ok (.getfield 37, 3) := by decide +kernel
theorem dX5_goAct_96 : decode cX5_goAct 96 = .ok (.iload_n 2, 1) := by decide +kernel
theorem dX5_goAct_97 : decode cX5_goAct 97 = .ok (.iaload, 1) := by decide +kernel
theorem dX5_goAct_98 : decode cX5_goAct 98 = .ok (.invokevirtual 143, 3) := by decide +kernel
theorem dX5_goAct_101 : decode cX5_goAct 101 = .ok (.return_, 1) := by decide +kernel
theorem dX5_goAct_102 : decode cX5_goAct 102 = .ok (.aload_n 0, 1) := by decide +kernel
theorem dX5_goAct_103 : decode cX5_goAct 103 = .ok (.getfield 118, 3) := by decide +kernel
theorem dX5_goAct_106 : decode cX5_goAct 106 = .ok (.ifCond .ne 8, 3) := by decide +kernel
theorem dX5_goAct_109 : decode cX5_goAct 109 = .ok (.iload_n 3, 1) := by decide +kernel
theorem dX5_goAct_110 : decode cX5_goAct 110 = .ok (.iconst 5, 1) := by decide +kernel
theorem dX5_goAct_111 : decode cX5_goAct 111 = .ok (.if_icmp .le 8, 3) := by decide +kernel
theorem dX5_goAct_114 : decode cX5_goAct 114 = .ok (.aload_n 0, 1) := by decide +kernel
theorem dX5_goAct_115 : decode cX5_goAct 115 = .ok (.invokevirtual 147, 3) := by decide +kernel
theorem dX5_goAct_118 : decode cX5_goAct 118 = .ok (.return_, 1) := by decide +kernel
theorem dX5_goAct_119 : decode cX5_goAct 119 = .ok (.iload_n 3, 1) := by decide +kernel
theorem dX5_goAct_120 : decode cX5_goAct 120 = .ok (.iconst 2, 1) := by decide +kernel
theorem dX5_goAct_121 : decode cX5_goAct 121 = .ok (.if_icmp .ne 68, 3) := by decide +kernel
theorem dX5_goAct_124 : decode cX5_goAct 124 = .ok (.aload_n 0, 1) := by decide +kernel
theorem dX5_goAct_125 : decode cX5_goAct 125 = .ok (.getfield 124, 3) := by decide +kernel
theorem dX5_goAct_128 : decode cX5_goAct 128 = .ok (.iconst 1, 1) := by decide +kernel
theorem dX5_goAct_129 : decode cX5_goAct 129 = .ok (.if_icmp .ne 12, 3) := by decide +kernel
theorem dX5_goAct_132 : decode cX5_goAct 132 = .ok (.aload_n 0, 1) := by decide +kernel
theorem dX5_goAct_133 : decode cX5_goAct 133 = .ok (.getfield 37, 3) := by decide +kernel
theorem dX5_goAct_136 : decode cX5_goAct 136 = .ok (.iload_n 2, 1) := by decide +kernel
theorem dX5_goAct_137 : decode cX5_goAct 137 = .ok (.iaload, 1) := by decide +kernel
theorem dX5_goAct_138 : decode cX5_goAct 138 = .ok (.goto 9, 3) := by decide +kernel
theorem dX5_goAct_141 : decode cX5_goAct 141 = .ok (.aload_n 0, 1) := by decide +kernel
theorem dX5_goAct_142 : decode cX5_goAct 142 = .ok (.getfield 40, 3) := by decide +kernel
theorem dX5_goAct_145 : decode cX5_goAct 145 = .ok (.iload_n 2, 1) := by decide +kernel
theorem dX5_goAct_146 : decode cX5_goAct 146 = .ok (.iaload, 1) := by decide +kernel
theorem dX5_goAct_147 : decode cX5_goAct 147 = .ok (.istore 4, 2) := by decide +kernel
theorem dX5_goAct_149 : decode cX5_goAct 149 = .ok (.aload_n 0, 1) := by decide +kernel
theorem dX5_goAct_150 : decode cX5_goAct 150 = .ok (.getfield 64, 3) := by decide +kernel
theorem dX5_goAct_153 : decode cX5_goAct 153 = .ok (.iload_n 1, 1) := by decide +kernel
theorem dX5_goAct_154 : decode cX5_goAct 154 = .ok (.iaload, 1) := by decide +kernel
theorem dX5_goAct_155 : decode cX5_goAct 155 = .ok (.iconst 2, 1) := by decide +kernel
theorem dX5_goAct_156 : decode cX5_goAct 156 = .ok (.if_icmp .ne 10, 3) := by decide +kernel
theorem dX5_goAct_159 : decode cX5_goAct 159 = .ok (.aload_n 0, 1) := by decide +kernel
theorem dX5_goAct_160 : decode cX5_goAct 160 = .ok (.invokevirtual 147, 3) := by decide +kernel
theorem dX5_goAct_163 : decode cX5_goAct 163 = .ok (.goto 25, 3) := by decide +kernel
theorem dX5_goAct_166 : decode cX5_goAct 166 = .ok (.iload 4, 2) := by decide +kernel
theorem dX5_goAct_168 : decode cX5_goAct 168 = .ok (.iconst (-1), 1) := by decide +kernel
theorem dX5_goAct_169 : decode cX5_goAct 169 = .ok (.if_icmp .ne 11, 3) := by decide +kernel
theorem dX5_goAct_172 : decode cX5_goAct 172 = .ok (.aload_n 0, 1) := by decide +kernel
theorem dX5_goAct_173 : decode cX5_goAct 173 = .ok (.iconst 0, 1) := by decide +kernel
theorem dX5_goAct_174 : decode cX5_goAct 174 = .ok (.invokevirtual 150, 3) := by decide +kernel
theorem dX5_goAct_177 : decode cX5_goAct 177 = .ok (.goto 11, 3) := by decide +kernel
theorem dX5_goAct_180 : decode cX5_goAct 180 = .ok (.aload_n 0, 1) := by decide +kernel
theorem dX5_goAct_181 : decode cX5_goAct 181 = .ok (.iload_n 1, 1) := by decide +kernel
theorem dX5_goAct_182 : decode cX5_goAct 182 = .ok (.iconst 1, 1) := by decide +kernel
theorem dX5_goAct_183 : decode cX5_goAct 183 = .ok (.iload 4, 2) := by decide +kernel
theorem dX5_goAct_185 : decode cX5_goAct 185 = .ok (.invokevirtual 143, 3) := by decide +kernel
theorem dX5_goAct_188 : decode cX5_goAct 188 = .ok (.return_, 1) := by decide +kernel
theorem dX5_goAct_189 : decode cX5_goAct 189 = .ok (.aload_n 0, 1) := by decide +kernel
theorem dX5_goAct_190 : decode cX5_goAct 190 = .ok (.getfield 67, 3) := by decide +kernel
theorem dX5_goAct_193 : decode cX5_goAct 193 = .ok (.iload_n 1, 1) := by decide +kernel
theorem dX5_goAct_194 : decode cX5_goAct 194 = .ok (.dup2, 1) := by decide +kernel
theorem dX5_goAct_195 : decode cX5_goAct 195 = .ok (.iaload, 1) := by decide +kernel
theorem dX5_goAct_196 : decode cX5_goAct 196 = .ok (.aload_n 0, 1) := by decide +kernel
theorem dX5_goAct_197 : decode cX5_goAct 197 = .ok (.getfield 124, 3) := by decide +kernel
theorem dX5_goAct_200 : decode cX5_goAct 200 = .ok (.iadd, 1) := by decide +kernel
theorem dX5_goAct_201 : decode cX5_goAct 201 = .ok (.iastore, 1) := by decide +kernel
theorem dX5_goAct_202 : decode cX5_goAct 202 = .ok (.aload_n 0, 1) := by decide +kernel
theorem dX5_goAct_203 : decode cX5_goAct 203 = .ok (.getfield 70, 3) := by decide +kernel
theorem dX5_goAct_206 : decode cX5_goAct 206 = .ok (.iload_n 1, 1) := by decide +kernel
theorem dX5_goAct_207 : decode cX5_goAct 207 = .ok (.dup2, 1) := by decide +kernel
theorem dX5_goAct_208 : decode cX5_goAct 208 = .ok (.iaload, 1) := by decide +kernel
theorem dX5_goAct_209 : decode cX5_goAct 209 = .ok (.iconst 1, 1) := by decide +kernel
theorem dX5_goAct_210 : decode cX5_goAct 210 = .ok (.iadd, 1) := by decide +kernel
theorem dX5_goAct_211 : decode cX5_goAct 211 = .ok (.iastore, 1) := by decide +kernel
theorem dX5_goAct_212 : decode cX5_goAct 212 = .ok (.aload_n 0, 1) := by decide +kernel
theorem dX5_goAct_213 : decode cX5_goAct 213 = .ok (.getfield 70, 3) := by decide +kernel
theorem dX5_goAct_216 : decode cX5_goAct 216 = .ok (.iload_n 1, 1) := by decide +kernel
theorem dX5_goAct_217 : decode cX5_goAct 217 = .ok (.iaload, 1) := by decide +kernel
theorem dX5_goAct_218 : decode cX5_goAct 218 = .ok (.iload_n 3, 1) := by decide +kernel
theorem dX5_goAct_219 : decode cX5_goAct 219 = .ok (.iconst 3, 1) := by decide +kernel
theorem dX5_goAct_220 : decode cX5_goAct 220 = .ok (.if_icmp .ne 7, 3) := by decide +kernel
end
section
theorem dX5_goAct_223 : decode cX5_goAct 223 = .ok (.iconst 2, 1) := by decide +kernel
theorem dX5_goAct_224 : decode cX5_goAct 224 = .ok (.goto 9, 3) := by decide +kernel
theorem dX5_goAct_227 : decode cX5_goAct 227 = .ok (.aload_n 0, 1) := by decide +kernel
theorem dX5_goAct_228 : decode cX5_goAct 228 = .ok (.getfield 37, 3) := by decide +kernel
theorem dX5_goAct_231 : decode cX5_goAct 231 = .ok (.iload_n 2, 1) := by decide +kernel
theorem dX5_goAct_232 : decode cX5_goAct 232 = .ok (.iaload, 1) := by decide +kernel
theorem dX5_goAct_233 : decode cX5_goAct 233 = .ok (.if_icmp .ne 16, 3) := by decide +kernel
theorem dX5_goAct_236 : decode cX5_goAct 236 = .ok (.aload_n 0, 1) := by decide +kernel
theorem dX5_goAct_237 : decode cX5_goAct 237 = .ok (.aload_n 0, 1) := by decide +kernel
theorem dX5_goAct_238 : decode cX5_goAct 238 = .ok (.getfield 67, 3) := by decide +kernel
theorem dX5_goAct_241 : decode cX5_goAct 241 = .ok (.iload_n 1, 1) := by decide +kernel
theorem dX5_goAct_242 : decode cX5_goAct 242 = .ok (.iaload, 1) := by decide +kernel
theorem dX5_goAct_243 : decode cX5_goAct 243 = .ok (.invokevirtual 150, 3) := by decide +kernel
theorem dX5_goAct_246 : decode cX5_goAct 246 = .ok (.goto 29, 3) := by decide +kernel
theorem dX5_goAct_249 : decode cX5_goAct 249 = .ok (.aload_n 0, 1) := by decide +kernel
theorem dX5_goAct_250 : decode cX5_goAct 250 = .ok (.iload_n 1, 1) := by decide +kernel
theorem dX5_goAct_251 : decode cX5_goAct 251 = .ok (.iconst 1, 1) := by decide +kernel
theorem dX5_goAct_252 : decode cX5_goAct 252 = .ok (.iload_n 3, 1) := by decide +kernel
theorem dX5_goAct_253 : decode cX5_goAct 253 = .ok (.iconst 3, 1) := by decide +kernel
theorem dX5_goAct_254 : decode cX5_goAct 254 = .ok (.if_icmp .ne 12, 3) := by decide +kernel
theorem dX5_goAct_257 : decode cX5_goAct 257 = .ok (.aload_n 0, 1) := by decide +kernel
theorem dX5_goAct_258 : decode cX5_goAct 258 = .ok (.getfield 37, 3) := by decide +kernel
theorem dX5_goAct_261 : decode cX5_goAct 261 = .ok (.iload_n 2, 1) := by decide +kernel
theorem dX5_goAct_262 : decode cX5_goAct 262 = .ok (.iaload, 1) := by decide +kernel
theorem dX5_goAct_263 : decode cX5_goAct 263 = .ok (.goto 9, 3) := by decide +kernel
theorem dX5_goAct_266 : decode cX5_goAct 266 = .ok (.aload_n 0, 1) := by decide +kernel
theorem dX5_goAct_267 : decode cX5_goAct 267 = .ok (.getfield 34, 3) := by decide +kernel
theorem dX5_goAct_270 : decode cX5_goAct 270 = .ok (.iload_n 2, 1) := by decide +kernel
theorem dX5_goAct_271 : decode cX5_goAct 271 = .ok (.iaload, 1) := by decide +kernel
theorem dX5_goAct_272 : decode cX5_goAct 272 = .ok (.invokevirtual 143, 3) := by decide +kernel
theorem dX5_goAct_275 : decode cX5_goAct 275 = .ok (.return_, 1) := by decide +kernel
set_option maxRecDepth 20000 in
theorem ggX5_begins_X5_fails : GoodIn wsX5_begins wsX5_fails := goodIn_r _ [16, 17, 18, 19, 20, 43, 44, 45, 46, 47, 48, 49, 50, 51, 52, 53, 54, 55, 56, 57, 58, 59, 60, 61, 62, 63, 64, 65, 66, 67, 68, 69, 70, 71, 72, 73, 74, 75, 76, 77, 78] (by decide +kernel) (by decide +kernel)
set_option maxRecDepth 20000 in
theorem gX5_begins_X5_fails : GoodIn wsX5_begins (wsV RX5 154 RX5 yX5_fails wsX5_fails) := goodIn_app (goodIn_of _ (by decide +kernel)) ggX5_begins_X5_fails
set_option maxRecDepth 20000 in
theorem ggX5_begins_X5_ends : GoodIn wsX5_begins wsX5_ends := goodIn_r _ [24, 17, 18, 19, 20, 43, 44, 45, 46, 47, 48, 49, 50, 51, 52, 53, 54, 55, 56, 57, 58, 59, 60, 61, 62, 63, 64, 65, 66, 67, 68, 69, 70, 71, 72, 73, 74, 75, 76, 77, 78] (by decide +kernel) (by decide +kernel)
set_option maxRecDepth 20000 in
theorem gX5_begins_X5_ends : GoodIn wsX5_begins (wsV RX5 150 RX5 yX5_ends wsX5_ends) := goodIn_app (goodIn_of _ (by decide +kernel)) ggX5_begins_X5_ends
set_option maxRecDepth 20000 in
theorem ggX5_begins_X5_goOn : GoodIn wsX5_begins wsX5_goOn := goodIn_r _ [28, 29, 30, 31, 32, 15, 33, 10, 18, 20, 34, 17, 35, 43, 44, 45, 46, 47, 48, 49, 50, 51, 52, 53, 54, 55, 56, 57, 58, 59, 60, 61, 62, 63, 64, 65, 66, 67, 68, 69, 70, 71, 72, 73, 74, 75, 76, 77, 78] (by decide +kernel) (by decide +kernel)
set_option maxRecDepth 20000 in
theorem gX5_begins_X5_goOn : GoodIn wsX5_begins (wsV RX5 143 RX5 yX5_goOn wsX5_goOn) := goodIn_app (goodIn_of _ (by decide +kernel)) ggX5_begins_X5_goOn
set_option maxRecDepth 20000 in
theorem ggX5_begins_X5_waits : GoodIn wsX5_begins wsX5_waits := goodIn_r _ [39, 40, 41, 42, 43, 44, 45, 46, 47, 48, 49, 50, 51, 52, 53, 54, 55, 56, 57, 58, 59, 60, 61, 62, 63, 64, 65, 66, 67, 68, 69, 70, 71, 72, 73, 74, 75, 76, 77, 78] (by decide +kernel) (by decide +kernel)
set_option maxRecDepth 20000 in
theorem gX5_begins_X5_waits : GoodIn wsX5_begins (wsV RX5 163 RX5 yX5_waits wsX5_waits) := goodIn_app (goodIn_of _ (by decide +kernel)) ggX5_begins_X5_waits
theorem dX5_begins_0 : decode cX5_begins 0 = .ok (.aload_n 0, 1) := by decide +kernel
theorem dX5_begins_1 : decode cX5_begins 1 = .ok (.getfield 34, 3) := by decide +kernel
theorem dX5_begins_4 : decode cX5_begins 4 = .ok (.iload_n 2, 1) := by decide +kernel
theorem dX5_begins_5 : decode cX5_begins 5 = .ok (.iaload, 1) := by decide +kernel
theorem dX5_begins_6 : decode cX5_begins 6 = .ok (.istore_n 3, 1) := by decide +kernel
theorem dX5_begins_7 : decode cX5_begins 7 = .ok (.aload_n 0, 1) := by decide +kernel
theorem dX5_begins_8 : decode cX5_begins 8 = .ok (.getfield 37, 3) := by decide +kernel
theorem dX5_begins_11 : decode cX5_begins 11 = .ok (.iload_n 2, 1) := by decide +kernel
theorem dX5_begins_12 : decode cX5_begins 12 = .ok (.iaload, 1) := by decide +kernel
theorem dX5_begins_13 : decode cX5_begins 13 = .ok (.istore 4, 2) := by decide +kernel
theorem dX5_begins_15 : decode cX5_begins 15 = .ok (.aload_n 0, 1) := by decide +kernel
theorem dX5_begins_16 : decode cX5_begins 16 = .ok (.getfield 40, 3) := by decide +kernel
theorem dX5_begins_19 : decode cX5_begins 19 = .ok (.iload_n 2, 1) := by decide +kernel
theorem dX5_begins_20 : decode cX5_begins 20 = .ok (.iaload, 1) := by decide +kernel
theorem dX5_begins_21 : decode cX5_begins 21 = .ok (.istore 5, 2) := by decide +kernel
theorem dX5_begins_23 : decode cX5_begins 23 = .ok (.aload_n 0, 1) := by decide +kernel
theorem dX5_begins_24 : decode cX5_begins 24 = .ok (.getfield 67, 3) := by decide +kernel
theorem dX5_begins_27 : decode cX5_begins 27 = .ok (.iload_n 1, 1) := by decide +kernel
theorem dX5_begins_28 : decode cX5_begins 28 = .ok (.iconst 0, 1) := by decide +kernel
theorem dX5_begins_29 : decode cX5_begins 29 = .ok (.iastore, 1) := by decide +kernel
theorem dX5_begins_30 : decode cX5_begins 30 = .ok (.aload_n 0, 1) := by decide +kernel
theorem dX5_begins_31 : decode cX5_begins 31 = .ok (.getfield 70, 3) := by decide +kernel
theorem dX5_begins_34 : decode cX5_begins 34 = .ok (.iload_n 1, 1) := by decide +kernel
theorem dX5_begins_35 : decode cX5_begins 35 = .ok (.iconst 0, 1) := by decide +kernel
theorem dX5_begins_36 : decode cX5_begins 36 = .ok (.iastore, 1) := by decide +kernel
theorem dX5_begins_37 : decode cX5_begins 37 = .ok (.aload_n 0, 1) := by decide +kernel
theorem dX5_begins_38 : decode cX5_begins 38 = .ok (.getfield 31, 3) := by decide +kernel
theorem dX5_begins_41 : decode cX5_begins 41 = .ok (.iload_n 2, 1) := by decide +kernel
theorem dX5_begins_42 : decode cX5_begins 42 = .ok (.iaload, 1) := by decide +kernel
theorem dX5_begins_43 : decode cX5_begins 43 = .ok (.tableswitch 331 0 8 #[49, 88, 139, 331, 149, 172, 192, 237, 304], 49) := by decide +kernel
theorem dX5_begins_92 : decode cX5_begins 92 = .ok (.aload_n 0, 1) := by decide +kernel
theorem dX5_begins_93 : decode cX5_begins 93 = .ok (.getfield 13, 3) := by decide +kernel
theorem dX5_begins_96 : decode cX5_begins 96 = .ok (.iload_n 3, 1) := by decide +kernel
theorem dX5_begins_97 : decode cX5_begins 97 = .ok (.iaload, 1) := by decide +kernel
theorem dX5_begins_98 : decode cX5_begins 98 = .ok (.iload 4, 2) := by decide +kernel
theorem dX5_begins_100 : decode cX5_begins 100 = .ok (.if_icmp .ge 11, 3) := by decide +kernel
theorem dX5_begins_103 : decode cX5_begins 103 = .ok (.aload_n 0, 1) := by decide +kernel
theorem dX5_begins_104 : decode cX5_begins 104 = .ok (.iconst 3, 1) := by decide +kernel
theorem dX5_begins_105 : decode cX5_begins 105 = .ok (.invokevirtual 154, 3) := by decide +kernel
theorem dX5_begins_108 : decode cX5_begins 108 = .ok (.goto 273, 3) := by decide +kernel
theorem dX5_begins_111 : decode cX5_begins 111 = .ok (.aload_n 0, 1) := by decide +kernel
theorem dX5_begins_112 : decode cX5_begins 112 = .ok (.getfield 13, 3) := by decide +kernel
theorem dX5_begins_115 : decode cX5_begins 115 = .ok (.iload_n 3, 1) := by decide +kernel
theorem dX5_begins_116 : decode cX5_begins 116 = .ok (.dup2, 1) := by decide +kernel
theorem dX5_begins_117 : decode cX5_begins 117 = .ok (.iaload, 1) := by decide +kernel
theorem dX5_begins_118 : decode cX5_begins 118 = .ok (.iload 4, 2) := by decide +kernel
theorem dX5_begins_120 : decode cX5_begins 120 = .ok (.isub, 1) := by decide +kernel
theorem dX5_begins_121 : decode cX5_begins 121 = .ok (.iastore, 1) := by decide +kernel
theorem dX5_begins_122 : decode cX5_begins 122 = .ok (.aload_n 0, 1) := by decide +kernel
theorem dX5_begins_123 : decode cX5_begins 123 = .ok (.iload 4, 2) := by decide +kernel
theorem dX5_begins_125 : decode cX5_begins 125 = .ok (.invokevirtual 150, 3) := by decide +kernel
theorem dX5_begins_128 : decode cX5_begins 128 = .ok (.goto 253, 3) := by decide +kernel
theorem dX5_begins_131 : decode cX5_begins 131 = .ok (.aload_n 0, 1) := by decide +kernel
theorem dX5_begins_132 : decode cX5_begins 132 = .ok (.getfield 13, 3) := by decide +kernel
theorem dX5_begins_135 : decode cX5_begins 135 = .ok (.iload_n 3, 1) := by decide +kernel
theorem dX5_begins_136 : decode cX5_begins 136 = .ok (.iaload, 1) := by decide +kernel
theorem dX5_begins_137 : decode cX5_begins 137 = .ok (.iload 5, 2) := by decide +kernel
theorem dX5_begins_139 : decode cX5_begins 139 = .ok (.if_icmp .ge 11, 3) := by decide +kernel
theorem dX5_begins_142 : decode cX5_begins 142 = .ok (.aload_n 0, 1) := by decide +kernel
theorem dX5_begins_143 : decode cX5_begins 143 = .ok (.iconst 3, 1) := by decide +kernel
theorem dX5_begins_144 : decode cX5_begins 144 = .ok (.invokevirtual 154, 3) := by decide +kernel
theorem dX5_begins_147 : decode cX5_begins 147 = .ok (.goto 234, 3) := by decide +kernel
theorem dX5_begins_150 : decode cX5_begins 150 = .ok (.aload_n 0, 1) := by decide +kernel
theorem dX5_begins_151 : decode cX5_begins 151 = .ok (.getfield 13, 3) := by decide +kernel
theorem dX5_begins_154 : decode cX5_begins 154 = .ok (.iload_n 3, 1) := by decide +kernel
theorem dX5_begins_155 : decode cX5_begins 155 = .ok (.dup2, 1) := by decide +kernel
theorem dX5_begins_156 : decode cX5_begins 156 = .ok (.iaload, 1) := by decide +kernel
theorem dX5_begins_157 : decode cX5_begins 157 = .ok (.iload 5, 2) := by decide +kernel
theorem dX5_begins_159 : decode cX5_begins 159 = .ok (.isub, 1) := by decide +kernel
theorem dX5_begins_160 : decode cX5_begins 160 = .ok (.iastore, 1) := by decide +kernel
theorem dX5_begins_161 : decode cX5_begins 161 = .ok (.aload_n 0, 1) := by decide +kernel
theorem dX5_begins_162 : decode cX5_begins 162 = .ok (.getfield 13, 3) := by decide +kernel
theorem dX5_begins_165 : decode cX5_begins 165 = .ok (.iload 4, 2) := by decide +kernel
theorem dX5_begins_167 : decode cX5_begins 167 = .ok (.dup2, 1) := by decide +kernel
theorem dX5_begins_168 : decode cX5_begins 168 = .ok (.iaload, 1) := by decide +kernel
theorem dX5_begins_169 : decode cX5_begins 169 = .ok (.iload 5, 2) := by decide +kernel
theorem dX5_begins_171 : decode cX5_begins 171 = .ok (.iadd, 1) := by decide +kernel
theorem dX5_begins_172 : decode cX5_begins 172 = .ok (.iastore, 1) := by decide +kernel
theorem dX5_begins_173 : decode cX5_begins 173 = .ok (.aload_n 0, 1) := by decide +kernel
theorem dX5_begins_174 : decode cX5_begins 174 = .ok (.iload 5, 2) := by decide +kernel
theorem dX5_begins_176 : decode cX5_begins 176 = .ok (.invokevirtual 150, 3) := by decide +kernel
theorem dX5_begins_179 : decode cX5_begins 179 = .ok (.goto 202, 3) := by decide +kernel
theorem dX5_begins_182 : decode cX5_begins 182 = .ok (.aload_n 0, 1) := by decide +kernel
theorem dX5_begins_183 : decode cX5_begins 183 = .ok (.iload_n 1, 1) := by decide +kernel
theorem dX5_begins_184 : decode cX5_begins 184 = .ok (.iconst 0, 1) := by decide +kernel
theorem dX5_begins_185 : decode cX5_begins 185 = .ok (.iload_n 3, 1) := by decide +kernel
theorem dX5_begins_186 : decode cX5_begins 186 = .ok (.invokevirtual 143, 3) := by decide +kernel
theorem dX5_begins_189 : decode cX5_begins 189 = .ok (.goto 192, 3) := by decide +kernel
theorem dX5_begins_192 : decode cX5_begins 192 = .ok (.iload 4, 2) := by decide +kernel
theorem dX5_begins_194 : decode cX5_begins 194 = .ok (.ifCond .ne 11, 3) := by decide +kernel
theorem dX5_begins_197 : decode cX5_begins 197 = .ok (.aload_n 0, 1) := by decide +kernel
theorem dX5_begins_198 : decode cX5_begins 198 = .ok (.iconst 0, 1) := by decide +kernel
theorem dX5_begins_199 : decode cX5_begins 199 = .ok (.invokevirtual 150, 3) := by decide +kernel
theorem dX5_begins_202 : decode cX5_begins 202 = .ok (.goto 179, 3) := by decide +kernel
theorem dX5_begins_205 : decode cX5_begins 205 = .ok (.aload_n 0, 1) := by decide +kernel
theorem dX5_begins_206 : decode cX5_begins 206 = .ok (.iload_n 1, 1) := by decide +kernel
theorem dX5_begins_207 : decode cX5_begins 207 = .ok (.iconst 1, 1) := by decide +kernel
theorem dX5_begins_208 : decode cX5_begins 208 = .ok (.iload_n 3, 1) := by decide +kernel
theorem dX5_begins_209 : decode cX5_begins 209 = .ok (.invokevirtual 143, 3) := by decide +kernel
theorem dX5_begins_212 : decode cX5_begins 212 = .ok (.goto 169, 3) := by decide +kernel
theorem dX5_begins_215 : decode cX5_begins 215 = .ok (.aload_n 0, 1) := by decide +kernel
theorem dX5_begins_216 : decode cX5_begins 216 = .ok (.iload_n 3, 1) := by decide +kernel
theorem dX5_begins_217 : decode cX5_begins 217 = .ok (.aload_n 0, 1) := by decide +kernel
theorem dX5_begins_218 : decode cX5_begins 218 = .ok (.getfield 160, 3) := by decide +kernel
theorem dX5_begins_221 : decode cX5_begins 221 = .ok (.iload 4, 2) := by decide +kernel
theorem dX5_begins_223 : decode cX5_begins 223 = .ok (.iadd, 1) := by decide +kernel
theorem dX5_begins_224 : decode cX5_begins 224 = .ok (.invokevirtual 163, 3) := by decide +kernel
theorem dX5_begins_227 : decode cX5_begins 227 = .ok (.aload_n 0, 1) := by decide +kernel
theorem dX5_begins_228 : decode cX5_begins 228 = .ok (.iconst 0, 1) := by decide +kernel
theorem dX5_begins_229 : decode cX5_begins 229 = .ok (.invokevirtual 150, 3) := by decide +kernel
theorem dX5_begins_232 : decode cX5_begins 232 = .ok (.goto 149, 3) := by decide +kernel
theorem dX5_begins_235 : decode cX5_begins 235 = .ok (.iconst 0, 1) := by decide +kernel
theorem dX5_begins_236 : decode cX5_begins 236 = .ok (.istore 6, 2) := by decide +kernel
theorem dX5_begins_238 : decode cX5_begins 238 = .ok (.iload 6, 2) := by decide +kernel
theorem dX5_begins_240 : decode cX5_begins 240 = .ok (.bipush 6, 2) := by decide +kernel
theorem dX5_begins_242 : decode cX5_begins 242 = .ok (.if_icmp .ge 28, 3) := by decide +kernel
theorem dX5_begins_245 : decode cX5_begins 245 = .ok (.aload_n 0, 1) := by decide +kernel
theorem dX5_begins_246 : decode cX5_begins 246 = .ok (.getfield 73, 3) := by decide +kernel
theorem dX5_begins_249 : decode cX5_begins 249 = .ok (.bipush 6, 2) := by decide +kernel
theorem dX5_begins_251 : decode cX5_begins 251 = .ok (.iload_n 1, 1) := by decide +kernel
theorem dX5_begins_252 : decode cX5_begins 252 = .ok (.imul, 1) := by decide +kernel
theorem dX5_begins_253 : decode cX5_begins 253 = .ok (.iload 6, 2) := by decide +kernel
theorem dX5_begins_255 : decode cX5_begins 255 = .ok (.iadd, 1) := by decide +kernel
theorem dX5_begins_256 : decode cX5_begins 256 = .ok (.aload_n 0, 1) := by decide +kernel
theorem dX5_begins_257 : decode cX5_begins 257 = .ok (.getfield 13, 3) := by decide +kernel
theorem dX5_begins_260 : decode cX5_begins 260 = .ok (.iload 6, 2) := by decide +kernel
theorem dX5_begins_262 : decode cX5_begins 262 = .ok (.iaload, 1) := by decide +kernel
theorem dX5_begins_263 : decode cX5_begins 263 = .ok (.iastore, 1) := by decide +kernel
theorem dX5_begins_264 : decode cX5_begins 264 = .ok (.iinc 6 1, 3) := by decide +kernel
theorem dX5_begins_267 : decode cX5_begins 267 = .ok (.goto (-29), 3) := by decide +kernel
theorem dX5_begins_270 : decode cX5_begins 270 = .ok (.aload_n 0, 1) := by decide +kernel
theorem dX5_begins_271 : decode cX5_begins 271 = .ok (.iload_n 1, 1) := by decide +kernel
theorem dX5_begins_272 : decode cX5_begins 272 = .ok (.iconst 1, 1) := by decide +kernel
theorem dX5_begins_273 : decode cX5_begins 273 = .ok (.iload_n 3, 1) := by decide +kernel
theorem dX5_begins_274 : decode cX5_begins 274 = .ok (.invokevirtual 143, 3) := by decide +kernel
theorem dX5_begins_277 : decode cX5_begins 277 = .ok (.goto 104, 3) := by decide +kernel
theorem dX5_begins_280 : decode cX5_begins 280 = .ok (.iload_n 3, 1) := by decide +kernel
theorem dX5_begins_281 : decode cX5_begins 281 = .ok (.ifCond .ge 56, 3) := by decide +kernel
theorem dX5_begins_284 : decode cX5_begins 284 = .ok (.aload_n 0, 1) := by decide +kernel
theorem dX5_begins_285 : decode cX5_begins 285 = .ok (.getfield 111, 3) := by decide +kernel
theorem dX5_begins_288 : decode cX5_begins 288 = .ok (.sipush 300, 3) := by decide +kernel
theorem dX5_begins_291 : decode cX5_begins 291 = .ok (.if_icmp .ne 7, 3) := by decide +kernel
theorem dX5_begins_294 : decode cX5_begins 294 = .ok (.iconst 1, 1) := by decide +kernel
theorem dX5_begins_295 : decode cX5_begins 295 = .ok (.goto 4, 3) := by decide +kernel
theorem dX5_begins_298 : decode cX5_begins 298 = .ok (.iconst 0, 1) := by decide +kernel
theorem dX5_begins_299 : decode cX5_begins 299 = .ok (.istore 6, 2) := by decide +kernel
theorem dX5_begins_301 : decode cX5_begins 301 = .ok (.aload_n 0, 1) := by decide +kernel
theorem dX5_begins_302 : decode cX5_begins 302 = .ok (.dup, 1) := by decide +kernel
theorem dX5_begins_303 : decode cX5_begins 303 = .ok (.getfield 111, 3) := by decide +kernel
theorem dX5_begins_306 : decode cX5_begins 306 = .ok (.iload 6, 2) := by decide +kernel
theorem dX5_begins_308 : decode cX5_begins 308 = .ok (.ifCond .eq 7, 3) := by decide +kernel
theorem dX5_begins_311 : decode cX5_begins 311 = .ok (.iconst 0, 1) := by decide +kernel
theorem dX5_begins_312 : decode cX5_begins 312 = .ok (.goto 4, 3) := by decide +kernel
theorem dX5_begins_315 : decode cX5_begins 315 = .ok (.iconst 1, 1) := by decide +kernel
theorem dX5_begins_316 : decode cX5_begins 316 = .ok (.iadd, 1) := by decide +kernel
theorem dX5_begins_317 : decode cX5_begins 317 = .ok (.putfield 111, 3) := by decide +kernel
theorem dX5_begins_320 : decode cX5_begins 320 = .ok (.aload_n 0, 1) := by decide +kernel
theorem dX5_begins_321 : decode cX5_begins 321 = .ok (.iload 6, 2) := by decide +kernel
theorem dX5_begins_323 : decode cX5_begins 323 = .ok (.ifCond .eq 7, 3) := by decide +kernel
theorem dX5_begins_326 : decode cX5_begins 326 = .ok (.iconst 5, 1) := by decide +kernel
theorem dX5_begins_327 : decode cX5_begins 327 = .ok (.goto 4, 3) := by decide +kernel
theorem dX5_begins_330 : decode cX5_begins 330 = .ok (.iconst 4, 1) := by decide +kernel
theorem dX5_begins_331 : decode cX5_begins 331 = .ok (.invokevirtual 154, 3) := by decide +kernel
theorem dX5_begins_334 : decode cX5_begins 334 = .ok (.goto 47, 3) := by decide +kernel
theorem dX5_begins_337 : decode cX5_begins 337 = .ok (.aload_n 0, 1) := by decide +kernel
theorem dX5_begins_338 : decode cX5_begins 338 = .ok (.iload_n 1, 1) := by decide +kernel
theorem dX5_begins_339 : decode cX5_begins 339 = .ok (.iconst 1, 1) := by decide +kernel
theorem dX5_begins_340 : decode cX5_begins 340 = .ok (.iload_n 3, 1) := by decide +kernel
theorem dX5_begins_341 : decode cX5_begins 341 = .ok (.invokevirtual 143, 3) := by decide +kernel
theorem dX5_begins_344 : decode cX5_begins 344 = .ok (.goto 37, 3) := by decide +kernel
theorem dX5_begins_347 : decode cX5_begins 347 = .ok (.aload_n 0, 1) := by decide +kernel
theorem dX5_begins_348 : decode cX5_begins 348 = .ok (.getfield 7, 3) := by decide +kernel
theorem dX5_begins_351 : decode cX5_begins 351 = .ok (.iload_n 3, 1) := by decide +kernel
theorem dX5_begins_352 : decode cX5_begins 352 = .ok (.aload_n 0, 1) := by decide +kernel
theorem dX5_begins_353 : decode cX5_begins 353 = .ok (.getfield 13, 3) := by decide +kernel
theorem dX5_begins_356 : decode cX5_begins 356 = .ok (.iload 4, 2) := by decide +kernel
theorem dX5_begins_358 : decode cX5_begins 358 = .ok (.iaload, 1) := by decide +kernel
theorem dX5_begins_359 : decode cX5_begins 359 = .ok (.iastore, 1) := by decide +kernel
theorem dX5_begins_360 : decode cX5_begins 360 = .ok (.aload_n 0, 1) := by decide +kernel
theorem dX5_begins_361 : decode cX5_begins 361 = .ok (.aload_n 0, 1) := by decide +kernel
theorem dX5_begins_362 : decode cX5_begins 362 = .ok (.getfield 13, 3) := by decide +kernel
theorem dX5_begins_365 : decode cX5_begins 365 = .ok (.iload 4, 2) := by decide +kernel
theorem dX5_begins_367 : decode cX5_begins 367 = .ok (.iaload, 1) := by decide +kernel
theorem dX5_begins_368 : decode cX5_begins 368 = .ok (.invokevirtual 150, 3) := by decide +kernel
theorem dX5_begins_371 : decode cX5_begins 371 = .ok (.goto 10, 3) := by decide +kernel
theorem dX5_begins_374 : decode cX5_begins 374 = .ok (.aload_n 0, 1) := by decide +kernel
theorem dX5_begins_375 : decode cX5_begins 375 = .ok (.iload_n 1, 1) := by decide +kernel
theorem dX5_begins_376 : decode cX5_begins 376 = .ok (.iconst 1, 1) := by decide +kernel
theorem dX5_begins_377 : decode cX5_begins 377 = .ok (.iload_n 3, 1) := by decide +kernel
theorem dX5_begins_378 : decode cX5_begins 378 = .ok (.invokevirtual 143, 3) := by decide +kernel
theorem dX5_begins_381 : decode cX5_begins 381 = .ok (.return_, 1) := by decide +kernel
theorem dX5_waits_0 : decode cX5_waits 0 = .ok (.aload_n 0, 1) := by decide +kernel
theorem dX5_waits_1 : decode cX5_waits 1 = .ok (.getfield 166, 3) := by decide +kernel
theorem dX5_waits_4 : decode cX5_waits 4 = .ok (.bipush 60, 2) := by decide +kernel
theorem dX5_waits_6 : decode cX5_waits 6 = .ok (.if_icmp .ge 33, 3) := by decide +kernel
theorem dX5_waits_9 : decode cX5_waits 9 = .ok (.aload_n 0, 1) := by decide +kernel
theorem dX5_waits_10 : decode cX5_waits 10 = .ok (.getfield 43, 3) := by decide +kernel
theorem dX5_waits_13 : decode cX5_waits 13 = .ok (.aload_n 0, 1) := by decide +kernel
theorem dX5_waits_14 : decode cX5_waits 14 = .ok (.getfield 166, 3) := by decide +kernel
theorem dX5_waits_17 : decode cX5_waits 17 = .ok (.iload_n 1, 1) := by decide +kernel
theorem dX5_waits_18 : decode cX5_waits 18 = .ok (.iastore, 1) := by decide +kernel
theorem dX5_waits_19 : decode cX5_waits 19 = .ok (.aload_n 0, 1) := by decide +kernel
theorem dX5_waits_20 : decode cX5_waits 20 = .ok (.getfield 46, 3) := by decide +kernel
theorem dX5_waits_23 : decode cX5_waits 23 = .ok (.aload_n 0, 1) := by decide +kernel
theorem dX5_waits_24 : decode cX5_waits 24 = .ok (.getfield 166, 3) := by decide +kernel
theorem dX5_waits_27 : decode cX5_waits 27 = .ok (.iload_n 2, 1) := by decide +kernel
theorem dX5_waits_28 : decode cX5_waits 28 = .ok (.iastore, 1) := by decide +kernel
theorem dX5_waits_29 : decode cX5_waits 29 = .ok (.aload_n 0, 1) := by decide +kernel
theorem dX5_waits_30 : decode cX5_waits 30 = .ok (.dup, 1) := by decide +kernel
theorem dX5_waits_31 : decode cX5_waits 31 = .ok (.getfield 166, 3) := by decide +kernel
theorem dX5_waits_34 : decode cX5_waits 34 = .ok (.iconst 1, 1) := by decide +kernel
theorem dX5_waits_35 : decode cX5_waits 35 = .ok (.iadd, 1) := by decide +kernel
theorem dX5_waits_36 : decode cX5_waits 36 = .ok (.putfield 166, 3) := by decide +kernel
theorem dX5_waits_39 : decode cX5_waits 39 = .ok (.return_, 1) := by decide +kernel
set_option maxRecDepth 20000 in
theorem ggX5_ask_X5_isRule : GoodIn wsX5_ask wsX5_isRule := goodIn_r _ [10, 11, 12, 13, 9, 14, 85, 86, 87, 88, 89, 90, 91, 92, 93, 94, 95, 96, 97, 98, 99, 100, 101, 102, 103, 104, 105, 106, 107, 108, 109, 110, 111, 112, 113, 114, 115, 116, 117, 118, 119, 120] (by decide +kernel) (by decide +kernel)
set_option maxRecDepth 20000 in
theorem gX5_ask_X5_isRule : GoodIn wsX5_ask (wsV RX5 98 RX5 yX5_isRule wsX5_isRule) := goodIn_app (goodIn_of _ (by decide +kernel)) ggX5_ask_X5_isRule
set_option maxRecDepth 20000 in
theorem ggX5_ask_X5_go : GoodIn wsX5_ask wsX5_go := goodIn_r _ [18, 19, 2, 20, 21, 1, 22, 23, 24, 9, 25, 26, 4, 27, 28, 29, 30, 31, 32, 33, 34, 5, 35, 36, 37, 38, 39, 40, 41, 42, 43, 44, 45, 46, 47, 48, 49, 50, 51, 52, 12, 13, 14, 53, 54, 55, 56, 57, 58, 59, 60, 61, 62, 63, 64, 65, 66, 67, 68, 69, 70, 71, 72, 73, 74, 75, 76, 77, 78, 79, 80, 81, 82, 83, 84, 85, 86, 87, 88, 89, 90, 91, 92, 93, 94, 95, 96, 97, 98, 99, 100, 101, 102, 103, 104, 105, 106, 107, 108, 109, 110, 111, 112, 113, 114, 115, 116, 117, 118, 119, 120] (by decide +kernel) (by decide +kernel)
set_option maxRecDepth 20000 in
theorem gX5_ask_X5_go : GoodIn wsX5_ask (wsV RX5 169 RX5 yX5_go wsX5_go) := goodIn_app (goodIn_of _ (by decide +kernel)) ggX5_ask_X5_go
theorem dX5_ask_0 : decode cX5_ask 0 = .ok (.aload_n 0, 1) := by decide +kernel
theorem dX5_ask_1 : decode cX5_ask 1 = .ok (.iload_n 1, 1) := by decide +kernel
theorem dX5_ask_2 : decode cX5_ask 2 = .ok (.invokevirtual 98, 3) := by decide +kernel
theorem dX5_ask_5 : decode cX5_ask 5 = .ok (.ifCond .ne 6, 3) := by decide +kernel
theorem dX5_ask_8 : decode cX5_ask 8 = .ok (.bipush (-2), 2) := by decide +kernel
theorem dX5_ask_10 : decode cX5_ask 10 = .ok (.ireturn, 1) := by decide +kernel
theorem dX5_ask_11 : decode cX5_ask 11 = .ok (.aload_n 0, 1) := by decide +kernel
theorem dX5_ask_12 : decode cX5_ask 12 = .ok (.getfield 137, 3) := by decide +kernel
theorem dX5_ask_15 : decode cX5_ask 15 = .ok (.sipush 20000, 3) := by decide +kernel
theorem dX5_ask_18 : decode cX5_ask 18 = .ok (.if_icmp .lt 6, 3) := by decide +kernel
theorem dX5_ask_21 : decode cX5_ask 21 = .ok (.bipush (-4), 2) := by decide +kernel
theorem dX5_ask_23 : decode cX5_ask 23 = .ok (.ireturn, 1) := by decide +kernel
theorem dX5_ask_24 : decode cX5_ask 24 = .ok (.aload_n 0, 1) := by decide +kernel
theorem dX5_ask_25 : decode cX5_ask 25 = .ok (.iconst 0, 1) := by decide +kernel
theorem dX5_ask_26 : decode cX5_ask 26 = .ok (.iload_n 1, 1) := by decide +kernel
theorem dX5_ask_27 : decode cX5_ask 27 = .ok (.invokevirtual 169, 3) := by decide +kernel
theorem dX5_ask_30 : decode cX5_ask 30 = .ok (.aload_n 0, 1) := by decide +kernel
theorem dX5_ask_31 : decode cX5_ask 31 = .ok (.aload_n 0, 1) := by decide +kernel
theorem dX5_ask_32 : decode cX5_ask 32 = .ok (.getfield 111, 3) := by decide +kernel
theorem dX5_ask_35 : decode cX5_ask 35 = .ok (.putfield 172, 3) := by decide +kernel
theorem dX5_ask_38 : decode cX5_ask 38 = .ok (.aload_n 0, 1) := by decide +kernel
theorem dX5_ask_39 : decode cX5_ask 39 = .ok (.getfield 118, 3) := by decide +kernel
theorem dX5_ask_42 : decode cX5_ask 42 = .ok (.ifCond .eq 13, 3) := by decide +kernel
theorem dX5_ask_45 : decode cX5_ask 45 = .ok (.bipush (-10), 2) := by decide +kernel
theorem dX5_ask_47 : decode cX5_ask 47 = .ok (.aload_n 0, 1) := by decide +kernel
theorem dX5_ask_48 : decode cX5_ask 48 = .ok (.getfield 118, 3) := by decide +kernel
theorem dX5_ask_51 : decode cX5_ask 51 = .ok (.isub, 1) := by decide +kernel
theorem dX5_ask_52 : decode cX5_ask 52 = .ok (.goto 7, 3) := by decide +kernel
theorem dX5_ask_55 : decode cX5_ask 55 = .ok (.aload_n 0, 1) := by decide +kernel
theorem dX5_ask_56 : decode cX5_ask 56 = .ok (.getfield 124, 3) := by decide +kernel
theorem dX5_ask_59 : decode cX5_ask 59 = .ok (.ireturn, 1) := by decide +kernel
set_option maxRecDepth 20000 in
theorem ggX5_run_X5_isAct : GoodIn wsX5_run wsX5_isAct := goodIn_r _ [11, 12, 13, 14, 10, 15, 86, 87, 88, 89, 90, 91, 92, 93, 94, 95, 96, 97, 98, 99, 100, 101, 102, 103, 104, 105, 106, 107, 108, 109, 110, 111, 112, 113, 114, 115, 116, 117, 118, 119, 120, 121] (by decide +kernel) (by decide +kernel)
set_option maxRecDepth 20000 in
theorem gX5_run_X5_isAct : GoodIn wsX5_run (wsV RX5 101 RX5 yX5_isAct wsX5_isAct) := goodIn_app (goodIn_of _ (by decide +kernel)) ggX5_run_X5_isAct
set_option maxRecDepth 20000 in
theorem ggX5_run_X5_go : GoodIn wsX5_run wsX5_go := goodIn_r _ [19, 20, 2, 21, 22, 1, 23, 24, 25, 10, 26, 27, 4, 28, 29, 30, 31, 32, 33, 34, 35, 5, 36, 37, 38, 39, 40, 41, 42, 43, 44, 45, 46, 47, 48, 49, 50, 51, 52, 53, 13, 14, 15, 54, 55, 56, 57, 58, 59, 60, 61, 62, 63, 64, 65, 66, 67, 68, 69, 70, 71, 72, 73, 74, 75, 76, 77, 78, 79, 80, 81, 82, 83, 84, 85, 86, 87, 88, 89, 90, 91, 92, 93, 94, 95, 96, 97, 98, 99, 100, 101, 102, 103, 104, 105, 106, 107, 108, 109, 110, 111, 112, 113, 114, 115, 116, 117, 118, 119, 120, 121] (by decide +kernel) (by decide +kernel)
set_option maxRecDepth 20000 in
theorem gX5_run_X5_go : GoodIn wsX5_run (wsV RX5 169 RX5 yX5_go wsX5_go) := goodIn_app (goodIn_of _ (by decide +kernel)) ggX5_run_X5_go
theorem dX5_run_0 : decode cX5_run 0 = .ok (.aload_n 0, 1) := by decide +kernel
theorem dX5_run_1 : decode cX5_run 1 = .ok (.iload_n 1, 1) := by decide +kernel
theorem dX5_run_2 : decode cX5_run 2 = .ok (.invokevirtual 101, 3) := by decide +kernel
theorem dX5_run_5 : decode cX5_run 5 = .ok (.ifCond .ne 6, 3) := by decide +kernel
theorem dX5_run_8 : decode cX5_run 8 = .ok (.bipush (-2), 2) := by decide +kernel
theorem dX5_run_10 : decode cX5_run 10 = .ok (.ireturn, 1) := by decide +kernel
theorem dX5_run_11 : decode cX5_run 11 = .ok (.aload_n 0, 1) := by decide +kernel
theorem dX5_run_12 : decode cX5_run 12 = .ok (.getfield 137, 3) := by decide +kernel
theorem dX5_run_15 : decode cX5_run 15 = .ok (.sipush 20000, 3) := by decide +kernel
theorem dX5_run_18 : decode cX5_run 18 = .ok (.if_icmp .lt 6, 3) := by decide +kernel
theorem dX5_run_21 : decode cX5_run 21 = .ok (.bipush (-4), 2) := by decide +kernel
theorem dX5_run_23 : decode cX5_run 23 = .ok (.ireturn, 1) := by decide +kernel
theorem dX5_run_24 : decode cX5_run 24 = .ok (.aload_n 0, 1) := by decide +kernel
theorem dX5_run_25 : decode cX5_run 25 = .ok (.iconst 1, 1) := by decide +kernel
theorem dX5_run_26 : decode cX5_run 26 = .ok (.iload_n 1, 1) := by decide +kernel
theorem dX5_run_27 : decode cX5_run 27 = .ok (.invokevirtual 169, 3) := by decide +kernel
theorem dX5_run_30 : decode cX5_run 30 = .ok (.aload_n 0, 1) := by decide +kernel
theorem dX5_run_31 : decode cX5_run 31 = .ok (.aload_n 0, 1) := by decide +kernel
theorem dX5_run_32 : decode cX5_run 32 = .ok (.getfield 111, 3) := by decide +kernel
theorem dX5_run_35 : decode cX5_run 35 = .ok (.putfield 172, 3) := by decide +kernel
theorem dX5_run_38 : decode cX5_run 38 = .ok (.aload_n 0, 1) := by decide +kernel
theorem dX5_run_39 : decode cX5_run 39 = .ok (.aload_n 0, 1) := by decide +kernel
theorem dX5_run_40 : decode cX5_run 40 = .ok (.getfield 118, 3) := by decide +kernel
theorem dX5_run_43 : decode cX5_run 43 = .ok (.ifCond .eq 7, 3) := by decide +kernel
theorem dX5_run_46 : decode cX5_run 46 = .ok (.iconst 0, 1) := by decide +kernel
theorem dX5_run_47 : decode cX5_run 47 = .ok (.goto 7, 3) := by decide +kernel
theorem dX5_run_50 : decode cX5_run 50 = .ok (.aload_n 0, 1) := by decide +kernel
theorem dX5_run_51 : decode cX5_run 51 = .ok (.getfield 124, 3) := by decide +kernel
theorem dX5_run_54 : decode cX5_run 54 = .ok (.putfield 175, 3) := by decide +kernel
theorem dX5_run_57 : decode cX5_run 57 = .ok (.aload_n 0, 1) := by decide +kernel
theorem dX5_run_58 : decode cX5_run 58 = .ok (.getfield 118, 3) := by decide +kernel
theorem dX5_run_61 : decode cX5_run 61 = .ok (.ifCond .eq 13, 3) := by decide +kernel
theorem dX5_run_64 : decode cX5_run 64 = .ok (.bipush (-10), 2) := by decide +kernel
theorem dX5_run_66 : decode cX5_run 66 = .ok (.aload_n 0, 1) := by decide +kernel
theorem dX5_run_67 : decode cX5_run 67 = .ok (.getfield 118, 3) := by decide +kernel
theorem dX5_run_70 : decode cX5_run 70 = .ok (.isub, 1) := by decide +kernel
theorem dX5_run_71 : decode cX5_run 71 = .ok (.goto 4, 3) := by decide +kernel
theorem dX5_run_74 : decode cX5_run 74 = .ok (.iconst 1, 1) := by decide +kernel
theorem dX5_run_75 : decode cX5_run 75 = .ok (.ireturn, 1) := by decide +kernel
theorem dX5_amount_0 : decode cX5_amount 0 = .ok (.aload_n 0, 1) := by decide +kernel
theorem dX5_amount_1 : decode cX5_amount 1 = .ok (.getfield 175, 3) := by decide +kernel
theorem dX5_amount_4 : decode cX5_amount 4 = .ok (.ireturn, 1) := by decide +kernel
theorem dX5_due_0 : decode cX5_due 0 = .ok (.iconst (-1), 1) := by decide +kernel
theorem dX5_due_1 : decode cX5_due 1 = .ok (.istore_n 1, 1) := by decide +kernel
theorem dX5_due_2 : decode cX5_due 2 = .ok (.aload_n 0, 1) := by decide +kernel
theorem dX5_due_3 : decode cX5_due 3 = .ok (.getfield 166, 3) := by decide +kernel
theorem dX5_due_6 : decode cX5_due 6 = .ok (.iconst 1, 1) := by decide +kernel
theorem dX5_due_7 : decode cX5_due 7 = .ok (.isub, 1) := by decide +kernel
theorem dX5_due_8 : decode cX5_due 8 = .ok (.istore_n 2, 1) := by decide +kernel
theorem dX5_due_9 : decode cX5_due 9 = .ok (.iload_n 2, 1) := by decide +kernel
theorem dX5_due_10 : decode cX5_due 10 = .ok (.ifCond .lt 28, 3) := by decide +kernel
theorem dX5_due_13 : decode cX5_due 13 = .ok (.aload_n 0, 1) := by decide +kernel
theorem dX5_due_14 : decode cX5_due 14 = .ok (.getfield 46, 3) := by decide +kernel
theorem dX5_due_17 : decode cX5_due 17 = .ok (.iload_n 2, 1) := by decide +kernel
theorem dX5_due_18 : decode cX5_due 18 = .ok (.iaload, 1) := by decide +kernel
theorem dX5_due_19 : decode cX5_due 19 = .ok (.aload_n 0, 1) := by decide +kernel
theorem dX5_due_20 : decode cX5_due 20 = .ok (.getfield 160, 3) := by decide +kernel
theorem dX5_due_23 : decode cX5_due 23 = .ok (.if_icmp .ne 7, 3) := by decide +kernel
theorem dX5_due_26 : decode cX5_due 26 = .ok (.iload_n 2, 1) := by decide +kernel
theorem dX5_due_27 : decode cX5_due 27 = .ok (.goto 4, 3) := by decide +kernel
theorem dX5_due_30 : decode cX5_due 30 = .ok (.iload_n 1, 1) := by decide +kernel
theorem dX5_due_31 : decode cX5_due 31 = .ok (.istore_n 1, 1) := by decide +kernel
theorem dX5_due_32 : decode cX5_due 32 = .ok (.iinc 2 (-1), 3) := by decide +kernel
theorem dX5_due_35 : decode cX5_due 35 = .ok (.goto (-26), 3) := by decide +kernel
theorem dX5_due_38 : decode cX5_due 38 = .ok (.iload_n 1, 1) := by decide +kernel
theorem dX5_due_39 : decode cX5_due 39 = .ok (.ireturn, 1) := by decide +kernel
set_option maxRecDepth 20000 in
theorem ggX5_tick_X5_in : GoodIn wsX5_tick wsX5_in := goodIn_r _ [6] (by decide +kernel) (by decide +kernel)
set_option maxRecDepth 20000 in
theorem gX5_tick_X5_in : GoodIn wsX5_tick (va_wsS RX5 76 yX5_in wsX5_in) := goodIn_app (goodIn_of _ (by decide +kernel)) ggX5_tick_X5_in
set_option maxRecDepth 20000 in
theorem ggX5_tick_X5_due : GoodIn wsX5_tick wsX5_due := goodIn_r _ [10, 11, 12, 1, 91, 92, 93, 94, 95, 96, 97, 98, 99, 100, 101, 102, 103, 104, 105, 106, 107, 108, 109, 110, 111, 112, 113, 114, 115, 116, 117, 118, 119, 120, 121, 122, 123, 124, 125, 126] (by decide +kernel) (by decide +kernel)
set_option maxRecDepth 20000 in
theorem gX5_tick_X5_due : GoodIn wsX5_tick (wsV RX5 178 RX5 yX5_due wsX5_due) := goodIn_app (goodIn_of _ (by decide +kernel)) ggX5_tick_X5_due
set_option maxRecDepth 20000 in
theorem ggX5_tick_X5_comes : GoodIn wsX5_tick wsX5_comes := goodIn_r _ [16, 17, 11, 12, 18, 19, 20, 21, 22, 1, 23, 24, 25, 5, 26, 27, 28, 29, 30, 2, 31, 32, 33, 34, 35, 36, 37, 38, 39, 40, 41, 42, 43, 44, 45, 46, 47, 48, 49, 50, 51, 52, 53, 54, 55, 56, 57, 58, 59, 60, 61, 62, 3, 4, 6, 63, 64, 65, 66, 67, 68, 69, 70, 71, 72, 73, 74, 75, 76, 77, 78, 79, 80, 81, 82, 83, 84, 85, 86, 87, 88, 89, 90, 91, 92, 93, 94, 95, 96, 97, 98, 99, 100, 101, 102, 103, 104, 105, 106, 107, 108, 109, 110, 111, 112, 113, 114, 115, 116, 117, 118, 119, 120, 121, 122, 123, 124, 125, 126] (by decide +kernel) (by decide +kernel)
set_option maxRecDepth 20000 in
theorem gX5_tick_X5_comes : GoodIn wsX5_tick (wsV RX5 182 RX5 yX5_comes wsX5_comes) := goodIn_app (goodIn_of _ (by decide +kernel)) ggX5_tick_X5_comes
theorem dX5_tick_0 : decode cX5_tick 0 = .ok (.iload_n 1, 1) := by decide +kernel
theorem dX5_tick_1 : decode cX5_tick 1 = .ok (.iconst 1, 1) := by decide +kernel
theorem dX5_tick_2 : decode cX5_tick 2 = .ok (.bipush 50, 2) := by decide +kernel
theorem dX5_tick_4 : decode cX5_tick 4 = .ok (.invokestatic 76, 3) := by decide +kernel
theorem dX5_tick_7 : decode cX5_tick 7 = .ok (.ifCond .ne 6, 3) := by decide +kernel
theorem dX5_tick_10 : decode cX5_tick 10 = .ok (.bipush (-3), 2) := by decide +kernel
theorem dX5_tick_12 : decode cX5_tick 12 = .ok (.ireturn, 1) := by decide +kernel
theorem dX5_tick_13 : decode cX5_tick 13 = .ok (.iconst 0, 1) := by decide +kernel
theorem dX5_tick_14 : decode cX5_tick 14 = .ok (.istore_n 2, 1) := by decide +kernel
theorem dX5_tick_15 : decode cX5_tick 15 = .ok (.iconst 0, 1) := by decide +kernel
theorem dX5_tick_16 : decode cX5_tick 16 = .ok (.istore_n 3, 1) := by decide +kernel
theorem dX5_tick_17 : decode cX5_tick 17 = .ok (.iload_n 3, 1) := by decide +kernel
theorem dX5_tick_18 : decode cX5_tick 18 = .ok (.iload_n 1, 1) := by decide +kernel
theorem dX5_tick_19 : decode cX5_tick 19 = .ok (.if_icmp .ge 74, 3) := by decide +kernel
theorem dX5_tick_22 : decode cX5_tick 22 = .ok (.aload_n 0, 1) := by decide +kernel
theorem dX5_tick_23 : decode cX5_tick 23 = .ok (.dup, 1) := by decide +kernel
theorem dX5_tick_24 : decode cX5_tick 24 = .ok (.getfield 160, 3) := by decide +kernel
theorem dX5_tick_27 : decode cX5_tick 27 = .ok (.iconst 1, 1) := by decide +kernel
theorem dX5_tick_28 : decode cX5_tick 28 = .ok (.iadd, 1) := by decide +kernel
theorem dX5_tick_29 : decode cX5_tick 29 = .ok (.putfield 160, 3) := by decide +kernel
theorem dX5_tick_32 : decode cX5_tick 32 = .ok (.iconst 0, 1) := by decide +kernel
theorem dX5_tick_33 : decode cX5_tick 33 = .ok (.istore 4, 2) := by decide +kernel
theorem dX5_tick_35 : decode cX5_tick 35 = .ok (.aload_n 0, 1) := by decide +kernel
theorem dX5_tick_36 : decode cX5_tick 36 = .ok (.invokevirtual 178, 3) := by decide +kernel
theorem dX5_tick_39 : decode cX5_tick 39 = .ok (.istore 5, 2) := by decide +kernel
theorem dX5_tick_41 : decode cX5_tick 41 = .ok (.iload 4, 2) := by decide +kernel
theorem dX5_tick_43 : decode cX5_tick 43 = .ok (.bipush 100, 2) := by decide +kernel
theorem dX5_tick_45 : decode cX5_tick 45 = .ok (.if_icmp .ge 37, 3) := by decide +kernel
theorem dX5_tick_48 : decode cX5_tick 48 = .ok (.iload 5, 2) := by decide +kernel
theorem dX5_tick_50 : decode cX5_tick 50 = .ok (.iconst (-1), 1) := by decide +kernel
theorem dX5_tick_51 : decode cX5_tick 51 = .ok (.if_icmp .eq 31, 3) := by decide +kernel
theorem dX5_tick_54 : decode cX5_tick 54 = .ok (.aload_n 0, 1) := by decide +kernel
theorem dX5_tick_55 : decode cX5_tick 55 = .ok (.getfield 137, 3) := by decide +kernel
theorem dX5_tick_58 : decode cX5_tick 58 = .ok (.sipush 20000, 3) := by decide +kernel
theorem dX5_tick_61 : decode cX5_tick 61 = .ok (.if_icmp .ge 21, 3) := by decide +kernel
theorem dX5_tick_64 : decode cX5_tick 64 = .ok (.iinc 4 1, 3) := by decide +kernel
theorem dX5_tick_67 : decode cX5_tick 67 = .ok (.aload_n 0, 1) := by decide +kernel
theorem dX5_tick_68 : decode cX5_tick 68 = .ok (.iload 5, 2) := by decide +kernel
theorem dX5_tick_70 : decode cX5_tick 70 = .ok (.invokevirtual 182, 3) := by decide +kernel
theorem dX5_tick_73 : decode cX5_tick 73 = .ok (.aload_n 0, 1) := by decide +kernel
theorem dX5_tick_74 : decode cX5_tick 74 = .ok (.invokevirtual 178, 3) := by decide +kernel
theorem dX5_tick_77 : decode cX5_tick 77 = .ok (.istore 5, 2) := by decide +kernel
theorem dX5_tick_79 : decode cX5_tick 79 = .ok (.goto (-38), 3) := by decide +kernel
theorem dX5_tick_82 : decode cX5_tick 82 = .ok (.iload_n 2, 1) := by decide +kernel
theorem dX5_tick_83 : decode cX5_tick 83 = .ok (.iload 4, 2) := by decide +kernel
theorem dX5_tick_85 : decode cX5_tick 85 = .ok (.iadd, 1) := by decide +kernel
theorem dX5_tick_86 : decode cX5_tick 86 = .ok (.istore_n 2, 1) := by decide +kernel
theorem dX5_tick_87 : decode cX5_tick 87 = .ok (.iinc 3 1, 3) := by decide +kernel
theorem dX5_tick_90 : decode cX5_tick 90 = .ok (.goto (-73), 3) := by decide +kernel
theorem dX5_tick_93 : decode cX5_tick 93 = .ok (.iload_n 2, 1) := by decide +kernel
theorem dX5_tick_94 : decode cX5_tick 94 = .ok (.ireturn, 1) := by decide +kernel
set_option maxRecDepth 20000 in
theorem ggX5_comes_X5_go : GoodIn wsX5_comes wsX5_go := goodIn_r _ [14, 15, 16, 17, 18, 19, 20, 21, 22, 13, 23, 24, 4, 25, 26, 27, 28, 29, 30, 31, 32, 33, 34, 35, 36, 37, 38, 39, 40, 41, 42, 43, 44, 45, 46, 47, 48, 49, 50, 51, 52, 53, 54, 55, 56, 57, 58, 59, 60, 61, 62, 63, 64, 65, 66, 67, 68, 69, 70, 71, 72, 73, 74, 75, 76, 77, 78, 9, 79, 80, 81, 82, 2, 1, 3, 83, 84, 85, 86, 87, 88, 89, 90, 91, 92, 93, 94, 95, 96, 97, 98, 99, 100, 101, 102, 103, 104, 105, 106, 107, 108, 109, 110, 111, 112, 113, 114, 115, 116, 117, 118] (by decide +kernel) (by decide +kernel)
set_option maxRecDepth 20000 in
theorem gX5_comes_X5_go : GoodIn wsX5_comes (wsV RX5 169 RX5 yX5_go wsX5_go) := goodIn_app (goodIn_of _ (by decide +kernel)) ggX5_comes_X5_go
theorem dX5_comes_0 : decode cX5_comes 0 = .ok (.aload_n 0, 1) := by decide +kernel
theorem dX5_comes_1 : decode cX5_comes 1 = .ok (.getfield 43, 3) := by decide +kernel
theorem dX5_comes_4 : decode cX5_comes 4 = .ok (.iload_n 1, 1) := by decide +kernel
theorem dX5_comes_5 : decode cX5_comes 5 = .ok (.iaload, 1) := by decide +kernel
theorem dX5_comes_6 : decode cX5_comes 6 = .ok (.istore_n 2, 1) := by decide +kernel
theorem dX5_comes_7 : decode cX5_comes 7 = .ok (.aload_n 0, 1) := by decide +kernel
theorem dX5_comes_8 : decode cX5_comes 8 = .ok (.dup, 1) := by decide +kernel
theorem dX5_comes_9 : decode cX5_comes 9 = .ok (.getfield 166, 3) := by decide +kernel
theorem dX5_comes_12 : decode cX5_comes 12 = .ok (.iconst 1, 1) := by decide +kernel
theorem dX5_comes_13 : decode cX5_comes 13 = .ok (.isub, 1) := by decide +kernel
theorem dX5_comes_14 : decode cX5_comes 14 = .ok (.putfield 166, 3) := by decide +kernel
theorem dX5_comes_17 : decode cX5_comes 17 = .ok (.iload_n 1, 1) := by decide +kernel
theorem dX5_comes_18 : decode cX5_comes 18 = .ok (.istore_n 3, 1) := by decide +kernel
theorem dX5_comes_19 : decode cX5_comes 19 = .ok (.iload_n 3, 1) := by decide +kernel
theorem dX5_comes_20 : decode cX5_comes 20 = .ok (.aload_n 0, 1) := by decide +kernel
theorem dX5_comes_21 : decode cX5_comes 21 = .ok (.getfield 166, 3) := by decide +kernel
theorem dX5_comes_24 : decode cX5_comes 24 = .ok (.if_icmp .ge 37, 3) := by decide +kernel
theorem dX5_comes_27 : decode cX5_comes 27 = .ok (.aload_n 0, 1) := by decide +kernel
theorem dX5_comes_28 : decode cX5_comes 28 = .ok (.getfield 43, 3) := by decide +kernel
theorem dX5_comes_31 : decode cX5_comes 31 = .ok (.iload_n 3, 1) := by decide +kernel
theorem dX5_comes_32 : decode cX5_comes 32 = .ok (.aload_n 0, 1) := by decide +kernel
theorem dX5_comes_33 : decode cX5_comes 33 = .ok (.getfield 43, 3) := by decide +kernel
theorem dX5_comes_36 : decode cX5_comes 36 = .ok (.iload_n 3, 1) := by decide +kernel
theorem dX5_comes_37 : decode cX5_comes 37 = .ok (.iconst 1, 1) := by decide +kernel
theorem dX5_comes_38 : decode cX5_comes 38 = .ok (.iadd, 1) := by decide +kernel
theorem dX5_comes_39 : decode cX5_comes 39 = .ok (.iaload, 1) := by decide +kernel
theorem dX5_comes_40 : decode cX5_comes 40 = .ok (.iastore, 1) := by decide +kernel
theorem dX5_comes_41 : decode cX5_comes 41 = .ok (.aload_n 0, 1) := by decide +kernel
theorem dX5_comes_42 : decode cX5_comes 42 = .ok (.getfield 46, 3) := by decide +kernel
theorem dX5_comes_45 : decode cX5_comes 45 = .ok (.iload_n 3, 1) := by decide +kernel
theorem dX5_comes_46 : decode cX5_comes 46 = .ok (.aload_n 0, 1) := by decide +kernel
theorem dX5_comes_47 : decode cX5_comes 47 = .ok (.getfield 46, 3) := by decide +kernel
theorem dX5_comes_50 : decode cX5_comes 50 = .ok (.iload_n 3, 1) := by decide +kernel
theorem dX5_comes_51 : decode cX5_comes 51 = .ok (.iconst 1, 1) := by decide +kernel
theorem dX5_comes_52 : decode cX5_comes 52 = .ok (.iadd, 1) := by decide +kernel
theorem dX5_comes_53 : decode cX5_comes 53 = .ok (.iaload, 1) := by decide +kernel
theorem dX5_comes_54 : decode cX5_comes 54 = .ok (.iastore, 1) := by decide +kernel
theorem dX5_comes_55 : decode cX5_comes 55 = .ok (.iinc 3 1, 3) := by decide +kernel
theorem dX5_comes_58 : decode cX5_comes 58 = .ok (.goto (-39), 3) := by decide +kernel
theorem dX5_comes_61 : decode cX5_comes 61 = .ok (.aload_n 0, 1) := by decide +kernel
theorem dX5_comes_62 : decode cX5_comes 62 = .ok (.iconst 1, 1) := by decide +kernel
theorem dX5_comes_63 : decode cX5_comes 63 = .ok (.iload_n 2, 1) := by decide +kernel
theorem dX5_comes_64 : decode cX5_comes 64 = .ok (.invokevirtual 169, 3) := by decide +kernel
theorem dX5_comes_67 : decode cX5_comes 67 = .ok (.aload_n 0, 1) := by decide +kernel
theorem dX5_comes_68 : decode cX5_comes 68 = .ok (.getfield 118, 3) := by decide +kernel
theorem dX5_comes_71 : decode cX5_comes 71 = .ok (.ifCond .eq 58, 3) := by decide +kernel
theorem dX5_comes_74 : decode cX5_comes 74 = .ok (.aload_n 0, 1) := by decide +kernel
theorem dX5_comes_75 : decode cX5_comes 75 = .ok (.getfield 185, 3) := by decide +kernel
theorem dX5_comes_78 : decode cX5_comes 78 = .ok (.bipush 30, 2) := by decide +kernel
theorem dX5_comes_80 : decode cX5_comes 80 = .ok (.if_icmp .ge 49, 3) := by decide +kernel
theorem dX5_comes_83 : decode cX5_comes 83 = .ok (.aload_n 0, 1) := by decide +kernel
theorem dX5_comes_84 : decode cX5_comes 84 = .ok (.getfield 49, 3) := by decide +kernel
theorem dX5_comes_87 : decode cX5_comes 87 = .ok (.aload_n 0, 1) := by decide +kernel
theorem dX5_comes_88 : decode cX5_comes 88 = .ok (.getfield 185, 3) := by decide +kernel
theorem dX5_comes_91 : decode cX5_comes 91 = .ok (.iload_n 2, 1) := by decide +kernel
theorem dX5_comes_92 : decode cX5_comes 92 = .ok (.iastore, 1) := by decide +kernel
theorem dX5_comes_93 : decode cX5_comes 93 = .ok (.aload_n 0, 1) := by decide +kernel
theorem dX5_comes_94 : decode cX5_comes 94 = .ok (.getfield 52, 3) := by decide +kernel
theorem dX5_comes_97 : decode cX5_comes 97 = .ok (.aload_n 0, 1) := by decide +kernel
theorem dX5_comes_98 : decode cX5_comes 98 = .ok (.getfield 185, 3) := by decide +kernel
theorem dX5_comes_101 : decode cX5_comes 101 = .ok (.aload_n 0, 1) := by decide +kernel
theorem dX5_comes_102 : decode cX5_comes 102 = .ok (.getfield 118, 3) := by decide +kernel
theorem dX5_comes_105 : decode cX5_comes 105 = .ok (.iastore, 1) := by decide +kernel
theorem dX5_comes_106 : decode cX5_comes 106 = .ok (.aload_n 0, 1) := by decide +kernel
theorem dX5_comes_107 : decode cX5_comes 107 = .ok (.getfield 55, 3) := by decide +kernel
theorem dX5_comes_110 : decode cX5_comes 110 = .ok (.aload_n 0, 1) := by decide +kernel
theorem dX5_comes_111 : decode cX5_comes 111 = .ok (.getfield 185, 3) := by decide +kernel
theorem dX5_comes_114 : decode cX5_comes 114 = .ok (.aload_n 0, 1) := by decide +kernel
theorem dX5_comes_115 : decode cX5_comes 115 = .ok (.getfield 160, 3) := by decide +kernel
theorem dX5_comes_118 : decode cX5_comes 118 = .ok (.iastore, 1) := by decide +kernel
theorem dX5_comes_119 : decode cX5_comes 119 = .ok (.aload_n 0, 1) := by decide +kernel
theorem dX5_comes_120 : decode cX5_comes 120 = .ok (.dup, 1) := by decide +kernel
theorem dX5_comes_121 : decode cX5_comes 121 = .ok (.getfield 185, 3) := by decide +kernel
theorem dX5_comes_124 : decode cX5_comes 124 = .ok (.iconst 1, 1) := by decide +kernel
theorem dX5_comes_125 : decode cX5_comes 125 = .ok (.iadd, 1) := by decide +kernel
theorem dX5_comes_126 : decode cX5_comes 126 = .ok (.putfield 185, 3) := by decide +kernel
theorem dX5_comes_129 : decode cX5_comes 129 = .ok (.return_, 1) := by decide +kernel
set_option maxRecDepth 20000 in
theorem ggX5_failed_X5_in : GoodIn wsX5_failed wsX5_in := goodIn_r _ [8] (by decide +kernel) (by decide +kernel)
set_option maxRecDepth 20000 in
theorem gX5_failed_X5_in : GoodIn wsX5_failed (va_wsS RX5 76 yX5_in wsX5_in) := goodIn_app (goodIn_of _ (by decide +kernel)) ggX5_failed_X5_in
theorem dX5_failed_0 : decode cX5_failed 0 = .ok (.iload_n 2, 1) := by decide +kernel
theorem dX5_failed_1 : decode cX5_failed 1 = .ok (.iconst 0, 1) := by decide +kernel
theorem dX5_failed_2 : decode cX5_failed 2 = .ok (.iconst 2, 1) := by decide +kernel
theorem dX5_failed_3 : decode cX5_failed 3 = .ok (.invokestatic 76, 3) := by decide +kernel
theorem dX5_failed_6 : decode cX5_failed 6 = .ok (.ifCond .ne 6, 3) := by decide +kernel
theorem dX5_failed_9 : decode cX5_failed 9 = .ok (.bipush (-3), 2) := by decide +kernel
theorem dX5_failed_11 : decode cX5_failed 11 = .ok (.ireturn, 1) := by decide +kernel
theorem dX5_failed_12 : decode cX5_failed 12 = .ok (.iload_n 1, 1) := by decide +kernel
theorem dX5_failed_13 : decode cX5_failed 13 = .ok (.iconst 0, 1) := by decide +kernel
theorem dX5_failed_14 : decode cX5_failed 14 = .ok (.aload_n 0, 1) := by decide +kernel
theorem dX5_failed_15 : decode cX5_failed 15 = .ok (.getfield 185, 3) := by decide +kernel
theorem dX5_failed_18 : decode cX5_failed 18 = .ok (.iconst 1, 1) := by decide +kernel
theorem dX5_failed_19 : decode cX5_failed 19 = .ok (.isub, 1) := by decide +kernel
theorem dX5_failed_20 : decode cX5_failed 20 = .ok (.invokestatic 76, 3) := by decide +kernel
theorem dX5_failed_23 : decode cX5_failed 23 = .ok (.ifCond .ne 5, 3) := by decide +kernel
theorem dX5_failed_26 : decode cX5_failed 26 = .ok (.iconst (-1), 1) := by decide +kernel
theorem dX5_failed_27 : decode cX5_failed 27 = .ok (.ireturn, 1) := by decide +kernel
theorem dX5_failed_28 : decode cX5_failed 28 = .ok (.iload_n 2, 1) := by decide +kernel
theorem dX5_failed_29 : decode cX5_failed 29 = .ok (.ifCond .ne 12, 3) := by decide +kernel
theorem dX5_failed_32 : decode cX5_failed 32 = .ok (.aload_n 0, 1) := by decide +kernel
theorem dX5_failed_33 : decode cX5_failed 33 = .ok (.getfield 49, 3) := by decide +kernel
theorem dX5_failed_36 : decode cX5_failed 36 = .ok (.iload_n 1, 1) := by decide +kernel
theorem dX5_failed_37 : decode cX5_failed 37 = .ok (.iaload, 1) := by decide +kernel
theorem dX5_failed_38 : decode cX5_failed 38 = .ok (.goto 23, 3) := by decide +kernel
theorem dX5_failed_41 : decode cX5_failed 41 = .ok (.iload_n 2, 1) := by decide +kernel
theorem dX5_failed_42 : decode cX5_failed 42 = .ok (.iconst 1, 1) := by decide +kernel
theorem dX5_failed_43 : decode cX5_failed 43 = .ok (.if_icmp .ne 12, 3) := by decide +kernel
theorem dX5_failed_46 : decode cX5_failed 46 = .ok (.aload_n 0, 1) := by decide +kernel
theorem dX5_failed_47 : decode cX5_failed 47 = .ok (.getfield 52, 3) := by decide +kernel
theorem dX5_failed_50 : decode cX5_failed 50 = .ok (.iload_n 1, 1) := by decide +kernel
theorem dX5_failed_51 : decode cX5_failed 51 = .ok (.iaload, 1) := by decide +kernel
theorem dX5_failed_52 : decode cX5_failed 52 = .ok (.goto 9, 3) := by decide +kernel
theorem dX5_failed_55 : decode cX5_failed 55 = .ok (.aload_n 0, 1) := by decide +kernel
theorem dX5_failed_56 : decode cX5_failed 56 = .ok (.getfield 55, 3) := by decide +kernel
theorem dX5_failed_59 : decode cX5_failed 59 = .ok (.iload_n 1, 1) := by decide +kernel
theorem dX5_failed_60 : decode cX5_failed 60 = .ok (.iaload, 1) := by decide +kernel
theorem dX5_failed_61 : decode cX5_failed 61 = .ok (.ireturn, 1) := by decide +kernel
theorem dX5_count_0 : decode cX5_count 0 = .ok (.iload_n 1, 1) := by decide +kernel
theorem dX5_count_1 : decode cX5_count 1 = .ok (.tableswitch 78 0 6 #[43, 48, 53, 58, 63, 68, 73], 43) := by decide +kernel
theorem dX5_count_44 : decode cX5_count 44 = .ok (.aload_n 0, 1) := by decide +kernel
theorem dX5_count_45 : decode cX5_count 45 = .ok (.getfield 92, 3) := by decide +kernel
theorem dX5_count_48 : decode cX5_count 48 = .ok (.ireturn, 1) := by decide +kernel
theorem dX5_count_49 : decode cX5_count 49 = .ok (.aload_n 0, 1) := by decide +kernel
theorem dX5_count_50 : decode cX5_count 50 = .ok (.getfield 95, 3) := by decide +kernel
theorem dX5_count_53 : decode cX5_count 53 = .ok (.ireturn, 1) := by decide +kernel
theorem dX5_count_54 : decode cX5_count 54 = .ok (.aload_n 0, 1) := by decide +kernel
theorem dX5_count_55 : decode cX5_count 55 = .ok (.getfield 166, 3) := by decide +kernel
theorem dX5_count_58 : decode cX5_count 58 = .ok (.ireturn, 1) := by decide +kernel
theorem dX5_count_59 : decode cX5_count 59 = .ok (.aload_n 0, 1) := by decide +kernel
theorem dX5_count_60 : decode cX5_count 60 = .ok (.getfield 160, 3) := by decide +kernel
theorem dX5_count_63 : decode cX5_count 63 = .ok (.ireturn, 1) := by decide +kernel
theorem dX5_count_64 : decode cX5_count 64 = .ok (.aload_n 0, 1) := by decide +kernel
theorem dX5_count_65 : decode cX5_count 65 = .ok (.getfield 185, 3) := by decide +kernel
theorem dX5_count_68 : decode cX5_count 68 = .ok (.ireturn, 1) := by decide +kernel
theorem dX5_count_69 : decode cX5_count 69 = .ok (.aload_n 0, 1) := by decide +kernel
theorem dX5_count_70 : decode cX5_count 70 = .ok (.getfield 172, 3) := by decide +kernel
theorem dX5_count_73 : decode cX5_count 73 = .ok (.ireturn, 1) := by decide +kernel
theorem dX5_count_74 : decode cX5_count 74 = .ok (.aload_n 0, 1) := by decide +kernel
theorem dX5_count_75 : decode cX5_count 75 = .ok (.getfield 137, 3) := by decide +kernel
theorem dX5_count_78 : decode cX5_count 78 = .ok (.ireturn, 1) := by decide +kernel
theorem dX5_count_79 : decode cX5_count 79 = .ok (.bipush (-3), 2) := by decide +kernel
theorem dX5_count_81 : decode cX5_count 81 = .ok (.ireturn, 1) := by decide +kernel
theorem dX5_why_0 : decode cX5_why 0 = .ok (.aload_n 0, 1) := by decide +kernel
theorem dX5_why_1 : decode cX5_why 1 = .ok (.getfield 84, 3) := by decide +kernel
theorem dX5_why_4 : decode cX5_why 4 = .ok (.ireturn, 1) := by decide +kernel
end
section
abbrev vwCl : List vw_C := [(RX0, TX0, 4), (RX1, TX1, 4), (RX2, TX2, 6), (RX3, TX3, 3), (RX4, TX4, 16), (RX5, TX5, 36)]
end
section
/-- the reference: its fields, its cells -/
abbrev Rfs (ad : Nat → Nat) (σ : Mem) : List Value := [.ref (ad 1), .ref (ad 2), .int (σ 0 2), .int (σ 0 3), .ref (ad 5), .ref (ad 6), .ref (ad 7), .ref (ad 8), .ref (ad 9), .int (σ 0 9), .ref (ad 11), .ref (ad 12), .ref (ad 13), .ref (ad 14), .int (σ 0 14), .ref (ad 16), .ref (ad 17), .int (σ 0 17), .ref (ad 19), .ref (ad 20), .ref (ad 21), .int (σ 0 21), .int (σ 0 22), .int (σ 0 23), .int (σ 0 24), .int (σ 0 25), .int (σ 0 26), .ref (ad 28), .ref (ad 29), .ref (ad 30), .ref (ad 31), .ref (ad 32), .ref (ad 33), .int (σ 0 33), .int (σ 0 34), .int (σ 0 35)]
abbrev RWl (ad : Nat → Nat) (cI : ClassId) (σ : Mem) : va_W := [(ad 0, .inr (5, Rfs ad σ)), (ad 1, .inl (cI, 8, .inl (σ 1))), (ad 2, .inl (cI, 6, .inl (σ 2))), (ad 5, .inl (cI, 40, .inl (σ 5))), (ad 6, .inl (cI, 40, .inl (σ 6))), (ad 7, .inl (cI, 40, .inl (σ 7))), (ad 8, .inl (cI, 40, .inl (σ 8))), (ad 9, .inl (cI, 40, .inl (σ 9))), (ad 11, .inl (cI, 40, .inl (σ 11))), (ad 12, .inl (cI, 40, .inl (σ 12))), (ad 13, .inl (cI, 40, .inl (σ 13))), (ad 14, .inl (cI, 40, .inl (σ 14))), (ad 16, .inl (cI, 60, .inl (σ 16))), (ad 17, .inl (cI, 60, .inl (σ 17))), (ad 19, .inl (cI, 30, .inl (σ 19))), (ad 20, .inl (cI, 30, .inl (σ 20))), (ad 21, .inl (cI, 30, .inl (σ 21))), (ad 28, .inl (cI, 300, .inl (σ 28))), (ad 29, .inl (cI, 300, .inl (σ 29))), (ad 30, .inl (cI, 300, .inl (σ 30))), (ad 31, .inl (cI, 300, .inl (σ 31))), (ad 32, .inl (cI, 300, .inl (σ 32))), (ad 33, .inl (cI, 1800, .inl (σ 33)))]
def RW (ad : Nat → Nat) (cI : ClassId) (σ : Mem) : va_W := RWl ad cI σ
theorem RWs_1 (ad : Nat → Nat) (cI : ClassId) (σ : Mem) (k : Nat) (x : Int32) : (RW ad cI σ).set 1 (ad 1, .inl (cI, 8, .inl (upd (σ 1) k x))) = RW ad cI (mset σ 1 k x) := rfl
theorem RWs_2 (ad : Nat → Nat) (cI : ClassId) (σ : Mem) (k : Nat) (x : Int32) : (RW ad cI σ).set 2 (ad 2, .inl (cI, 6, .inl (upd (σ 2) k x))) = RW ad cI (mset σ 2 k x) := rfl
theorem RWp_2 (ad : Nat → Nat) (cI : ClassId) (σ : Mem) (x : Int32) : (RW ad cI σ).set 0 (ad 0, .inr (5, (Rfs ad σ).set 2 (.int x))) = RW ad cI (mset σ 0 2 x) := rfl
theorem RWp_3 (ad : Nat → Nat) (cI : ClassId) (σ : Mem) (x : Int32) : (RW ad cI σ).set 0 (ad 0, .inr (5, (Rfs ad σ).set 3 (.int x))) = RW ad cI (mset σ 0 3 x) := rfl
theorem RWs_5 (ad : Nat → Nat) (cI : ClassId) (σ : Mem) (k : Nat) (x : Int32) : (RW ad cI σ).set 3 (ad 5, .inl (cI, 40, .inl (upd (σ 5) k x))) = RW ad cI (mset σ 5 k x) := rfl
theorem RWs_6 (ad : Nat → Nat) (cI : ClassId) (σ : Mem) (k : Nat) (x : Int32) : (RW ad cI σ).set 4 (ad 6, .inl (cI, 40, .inl (upd (σ 6) k x))) = RW ad cI (mset σ 6 k x) := rfl
theorem RWs_7 (ad : Nat → Nat) (cI : ClassId) (σ : Mem) (k : Nat) (x : Int32) : (RW ad cI σ).set 5 (ad 7, .inl (cI, 40, .inl (upd (σ 7) k x))) = RW ad cI (mset σ 7 k x) := rfl
theorem RWs_8 (ad : Nat → Nat) (cI : ClassId) (σ : Mem) (k : Nat) (x : Int32) : (RW ad cI σ).set 6 (ad 8, .inl (cI, 40, .inl (upd (σ 8) k x))) = RW ad cI (mset σ 8 k x) := rfl
theorem RWs_9 (ad : Nat → Nat) (cI : ClassId) (σ : Mem) (k : Nat) (x : Int32) : (RW ad cI σ).set 7 (ad 9, .inl (cI, 40, .inl (upd (σ 9) k x))) = RW ad cI (mset σ 9 k x) := rfl
theorem RWp_9 (ad : Nat → Nat) (cI : ClassId) (σ : Mem) (x : Int32) : (RW ad cI σ).set 0 (ad 0, .inr (5, (Rfs ad σ).set 9 (.int x))) = RW ad cI (mset σ 0 9 x) := rfl
theorem RWs_11 (ad : Nat → Nat) (cI : ClassId) (σ : Mem) (k : Nat) (x : Int32) : (RW ad cI σ).set 8 (ad 11, .inl (cI, 40, .inl (upd (σ 11) k x))) = RW ad cI (mset σ 11 k x) := rfl
theorem RWs_12 (ad : Nat → Nat) (cI : ClassId) (σ : Mem) (k : Nat) (x : Int32) : (RW ad cI σ).set 9 (ad 12, .inl (cI, 40, .inl (upd (σ 12) k x))) = RW ad cI (mset σ 12 k x) := rfl
theorem RWs_13 (ad : Nat → Nat) (cI : ClassId) (σ : Mem) (k : Nat) (x : Int32) : (RW ad cI σ).set 10 (ad 13, .inl (cI, 40, .inl (upd (σ 13) k x))) = RW ad cI (mset σ 13 k x) := rfl
theorem RWs_14 (ad : Nat → Nat) (cI : ClassId) (σ : Mem) (k : Nat) (x : Int32) : (RW ad cI σ).set 11 (ad 14, .inl (cI, 40, .inl (upd (σ 14) k x))) = RW ad cI (mset σ 14 k x) := rfl
theorem RWp_14 (ad : Nat → Nat) (cI : ClassId) (σ : Mem) (x : Int32) : (RW ad cI σ).set 0 (ad 0, .inr (5, (Rfs ad σ).set 14 (.int x))) = RW ad cI (mset σ 0 14 x) := rfl
theorem RWs_16 (ad : Nat → Nat) (cI : ClassId) (σ : Mem) (k : Nat) (x : Int32) : (RW ad cI σ).set 12 (ad 16, .inl (cI, 60, .inl (upd (σ 16) k x))) = RW ad cI (mset σ 16 k x) := rfl
theorem RWs_17 (ad : Nat → Nat) (cI : ClassId) (σ : Mem) (k : Nat) (x : Int32) : (RW ad cI σ).set 13 (ad 17, .inl (cI, 60, .inl (upd (σ 17) k x))) = RW ad cI (mset σ 17 k x) := rfl
theorem RWp_17 (ad : Nat → Nat) (cI : ClassId) (σ : Mem) (x : Int32) : (RW ad cI σ).set 0 (ad 0, .inr (5, (Rfs ad σ).set 17 (.int x))) = RW ad cI (mset σ 0 17 x) := rfl
theorem RWs_19 (ad : Nat → Nat) (cI : ClassId) (σ : Mem) (k : Nat) (x : Int32) : (RW ad cI σ).set 14 (ad 19, .inl (cI, 30, .inl (upd (σ 19) k x))) = RW ad cI (mset σ 19 k x) := rfl
theorem RWs_20 (ad : Nat → Nat) (cI : ClassId) (σ : Mem) (k : Nat) (x : Int32) : (RW ad cI σ).set 15 (ad 20, .inl (cI, 30, .inl (upd (σ 20) k x))) = RW ad cI (mset σ 20 k x) := rfl
theorem RWs_21 (ad : Nat → Nat) (cI : ClassId) (σ : Mem) (k : Nat) (x : Int32) : (RW ad cI σ).set 16 (ad 21, .inl (cI, 30, .inl (upd (σ 21) k x))) = RW ad cI (mset σ 21 k x) := rfl
theorem RWp_21 (ad : Nat → Nat) (cI : ClassId) (σ : Mem) (x : Int32) : (RW ad cI σ).set 0 (ad 0, .inr (5, (Rfs ad σ).set 21 (.int x))) = RW ad cI (mset σ 0 21 x) := rfl
theorem RWp_22 (ad : Nat → Nat) (cI : ClassId) (σ : Mem) (x : Int32) : (RW ad cI σ).set 0 (ad 0, .inr (5, (Rfs ad σ).set 22 (.int x))) = RW ad cI (mset σ 0 22 x) := rfl
theorem RWp_23 (ad : Nat → Nat) (cI : ClassId) (σ : Mem) (x : Int32) : (RW ad cI σ).set 0 (ad 0, .inr (5, (Rfs ad σ).set 23 (.int x))) = RW ad cI (mset σ 0 23 x) := rfl
theorem RWp_24 (ad : Nat → Nat) (cI : ClassId) (σ : Mem) (x : Int32) : (RW ad cI σ).set 0 (ad 0, .inr (5, (Rfs ad σ).set 24 (.int x))) = RW ad cI (mset σ 0 24 x) := rfl
theorem RWp_25 (ad : Nat → Nat) (cI : ClassId) (σ : Mem) (x : Int32) : (RW ad cI σ).set 0 (ad 0, .inr (5, (Rfs ad σ).set 25 (.int x))) = RW ad cI (mset σ 0 25 x) := rfl
theorem RWp_26 (ad : Nat → Nat) (cI : ClassId) (σ : Mem) (x : Int32) : (RW ad cI σ).set 0 (ad 0, .inr (5, (Rfs ad σ).set 26 (.int x))) = RW ad cI (mset σ 0 26 x) := rfl
theorem RWs_28 (ad : Nat → Nat) (cI : ClassId) (σ : Mem) (k : Nat) (x : Int32) : (RW ad cI σ).set 17 (ad 28, .inl (cI, 300, .inl (upd (σ 28) k x))) = RW ad cI (mset σ 28 k x) := rfl
theorem RWs_29 (ad : Nat → Nat) (cI : ClassId) (σ : Mem) (k : Nat) (x : Int32) : (RW ad cI σ).set 18 (ad 29, .inl (cI, 300, .inl (upd (σ 29) k x))) = RW ad cI (mset σ 29 k x) := rfl
theorem RWs_30 (ad : Nat → Nat) (cI : ClassId) (σ : Mem) (k : Nat) (x : Int32) : (RW ad cI σ).set 19 (ad 30, .inl (cI, 300, .inl (upd (σ 30) k x))) = RW ad cI (mset σ 30 k x) := rfl
theorem RWs_31 (ad : Nat → Nat) (cI : ClassId) (σ : Mem) (k : Nat) (x : Int32) : (RW ad cI σ).set 20 (ad 31, .inl (cI, 300, .inl (upd (σ 31) k x))) = RW ad cI (mset σ 31 k x) := rfl
theorem RWs_32 (ad : Nat → Nat) (cI : ClassId) (σ : Mem) (k : Nat) (x : Int32) : (RW ad cI σ).set 21 (ad 32, .inl (cI, 300, .inl (upd (σ 32) k x))) = RW ad cI (mset σ 32 k x) := rfl
theorem RWs_33 (ad : Nat → Nat) (cI : ClassId) (σ : Mem) (k : Nat) (x : Int32) : (RW ad cI σ).set 22 (ad 33, .inl (cI, 1800, .inl (upd (σ 33) k x))) = RW ad cI (mset σ 33 k x) := rfl
theorem RWp_33 (ad : Nat → Nat) (cI : ClassId) (σ : Mem) (x : Int32) : (RW ad cI σ).set 0 (ad 0, .inr (5, (Rfs ad σ).set 33 (.int x))) = RW ad cI (mset σ 0 33 x) := rfl
theorem RWp_34 (ad : Nat → Nat) (cI : ClassId) (σ : Mem) (x : Int32) : (RW ad cI σ).set 0 (ad 0, .inr (5, (Rfs ad σ).set 34 (.int x))) = RW ad cI (mset σ 0 34 x) := rfl
theorem RWp_35 (ad : Nat → Nat) (cI : ClassId) (σ : Mem) (x : Int32) : (RW ad cI σ).set 0 (ad 0, .inr (5, (Rfs ad σ).set 35 (.int x))) = RW ad cI (mset σ 0 35 x) := rfl
section M1
variable {p : Program} {l : Launch} {e : Env} {R : Room} {s : State} {m : MethodId} {args : Array Value} {below : List Frame} {meth : Method} {c : Code} {H : Heap} {locs : List Loc} {cells slots : Nat} {Q : State → Prop} {cc : ByteArray} {nL : Nat} {Ts : List Cond} {own : String} {D : va_G} {tys : List (ClassId × FieldType)} {A : Nat → Prop} {pc : Nat} {ls : Array Slot} {rest : List Value} {ad : Nat → Nat} {cI : ClassId} {σ : Mem}
theorem M_get (S : CallFix p m c cc nL s args Ts RX5) (hin : ∀ w ∈ wsX50, w ∈ Ts) (hK : va_K D vwCl tys s) (hG : wI D vwCl A s.heap H locs (RW ad cI σ)) (k : Nat) (hk : k < 36) {index : Nat} (hl : Cond.fieldLink RX5 index (TX5 k).1 (TX5 k).2.1 (TX5 k).2.2.1 ∈ Ts) {v : Value} (hv : (Rfs ad σ)[k]? = some v) (hdg : decode cc pc = .ok (.getfield index, 3))
    (kk : W p l e R s m args below meth c H locs cells slots Q (F0 m (pc + 3) ls (v :: rest))) : W p l e R s m args below meth c H locs cells slots Q (F0 m pc ls (.ref (ad 0) :: rest)) :=
  r_get S hK hG hin 0 rfl rfl k hk hl hv hdg kk
theorem M_put (S : CallFix p m c cc nL s args Ts RX5) (hin : ∀ w ∈ wsX50, w ∈ Ts) (hK : va_K D vwCl tys s) (hG : wI D vwCl A s.heap H locs (RW ad cI σ)) (k : Nat) (hk : k < 36) {index : Nat} (hl : Cond.fieldLink RX5 index (TX5 k).1 (TX5 k).2.1 (TX5 k).2.2.1 ∈ Ts) {x : Int32} (hfin : (TX5 k).2.2.2 = false) (hn : narrow (tyX5 k) (.int x) = .int x) (hfit : fits (tyX5 k) (.int x) = true) (hw : (RW ad cI σ).set 0 (ad 0, .inr (5, (Rfs ad σ).set k (.int x))) = RW ad cI (mset σ 0 k x)) (hdg : decode cc pc = .ok (.putfield index, 3))
    (kk : ∀ (σ1 : Mem) (H1 : Heap) (locs1 : List Loc), σ1 = mset σ 0 k x → wI D vwCl A s.heap H1 locs1 (RW ad cI σ1) → W p l e R s m args below meth c H1 locs1 cells slots Q (F0 m (pc + 3) ls rest)) : W p l e R s m args below meth c H locs cells slots Q (F0 m pc ls (.int x :: .ref (ad 0) :: rest)) :=
  r_put S hK hG hin tyX5 tyX5_ok nmX5 0 rfl rfl k hk hl hfin hn hfit hk hw hdg (fun H1 locs1 h => kk _ H1 locs1 rfl h)
theorem M_ast (S : CallFix p m c cc nL s args Ts own) (hK : va_K D vwCl [(cI, .int)] s) (hG : wI D vwCl A s.heap H locs (RW ad cI σ)) (r q0 n : Nat) (he : (RW ad cI σ)[q0]? = some (ad r, .inl (cI, n, .inl (σ r)))) {i x : Int32} (hin : vp_in i n) (hw : (RW ad cI σ).set q0 (ad r, .inl (cI, n, .inl (upd (σ r) i.toNatClampNeg x))) = RW ad cI (mset σ r i.toNatClampNeg x)) (hdg : decode cc pc = .ok (.iastore, 1))
    (kk : ∀ (σ1 : Mem) (H1 : Heap) (locs1 : List Loc), σ1 = mset σ r i.toNatClampNeg x → wI D vwCl A s.heap H1 locs1 (RW ad cI σ1) → W p l e R s m args below meth c H1 locs1 cells slots Q (F0 m (pc + 1) ls rest)) : W p l e R s m args below meth c H locs cells slots Q (F0 m pc ls (.int x :: .int i :: .ref (ad r) :: rest)) :=
  r_iast S hK hG q0 0 he rfl hin hw hdg (fun H1 locs1 h => kk _ H1 locs1 rfl h)
end M1
def f_X5_in (v : Int32) (lo : Int32) (hi : Int32) : Bool :=
  (if v < lo then
  false
  else
  (if hi < v then
  false
  else
  true))
set_option maxRecDepth 100000 in
set_option maxHeartbeats 4000000 in
theorem b_X5_in_0 {p : Program} {l : Launch} {e : Env} {s : State} {m : MethodId} {args : Array Value} {below : List Frame} {meth : Method} {c : Code} {D : va_G} {cl : List vw_C} {tys : List (ClassId × FieldType)} {w w0 : va_W} {X : Bool} (S : CallFix p m c cX5_in 3 s args wsX5_in RX5) (hr : meth.sig.returnType = (some .boolean)) (hlocks : meth.locks = false) (hK : va_K D cl tys s) (hA : ∀ q, s.heap.size ≤ q → va_A w0 s.heap.size q) (v : Int32) (lo : Int32) (hi : Int32) (hf : f_X5_in v lo hi = X) (H : Heap) (locs : List Loc) (hG : wI D cl (va_A w0 s.heap.size) s.heap H locs w) (ls : Array Slot) (hl : lv_has ls 3 [(0, .int v), (1, .int lo), (2, .int hi)]) : W p l e ({ frames := 0, cells := 0, slots := 0, locals := 0 } : Room) s m args below meth c H locs 0 0 (MQ below (va_Qi (fun (r : Int32) (_ : Unit) => r = bI X) (fun u t => wPost D cl w0 s.heap.size ((fun _ => w) u) t) (va_A w0 s.heap.size)) args s 0 0 (va_A w0 s.heap.size)) (F0 m 0 ls []) := by
  unfold f_X5_in at hf
  refine lv_iload_n S.1 S.2.1 dX5_in_0 rfl (lv_at hl 0 rfl) ?_
  refine lv_iload_n S.1 S.2.1 dX5_in_1 rfl (lv_at hl 1 rfl) ?_
  refine lv_icmp_lt (tgt := 14) S.1 S.2.1 dX5_in_2 (by decide) (fun c_2 => ?_) (fun c_2 => ?_)
  · have hf := ite_p c_2 hf
    refine lv_iconst (v := 0) S.1 S.2.1 dX5_in_14 (by decide) ?_
    exact r_iret S hr hlocks hG () rfl (congrArg bI hf) (bI_nar false) dX5_in_15
  · have hf := ite_n c_2 hf
    refine lv_iload_n S.1 S.2.1 dX5_in_5 rfl (lv_at hl 0 rfl) ?_
    refine lv_iload_n S.1 S.2.1 dX5_in_6 rfl (lv_at hl 2 rfl) ?_
    refine lv_icmp_gt (tgt := 14) S.1 S.2.1 dX5_in_7 (by decide) (fun c_7 => ?_) (fun c_7 => ?_)
    · have hf := ite_p c_7 hf
      refine lv_iconst (v := 0) S.1 S.2.1 dX5_in_14 (by decide) ?_
      exact r_iret S hr hlocks hG () rfl (congrArg bI hf) (bI_nar false) dX5_in_15
    · have hf := ite_n c_7 hf
      refine lv_iconst (v := 1) S.1 S.2.1 dX5_in_10 (by decide) ?_
      refine lv_goto (tgt := 15) S.1 S.2.1 dX5_in_11 (by decide) ?_
      exact r_iret S hr hlocks hG () rfl (congrArg bI hf) (bI_nar true) dX5_in_15
theorem k_X5_in (l : Launch) (D : va_G) (cl : List vw_C) (tys : List (ClassId × FieldType)) (w : va_W) (v : Int32) (lo : Int32) (hi : Int32) : CMi l yX5_in wsX5_in ({ frames := 0, cells := 0, slots := 0, locals := 0 } : Room) D cl tys w [.int v, .int lo, .int hi] (fun (r : Int32) (_ : Unit) => r = bI (f_X5_in v lo hi)) (fun _ => w) :=
  r_met (by decide) rfl (Nat.le_of_ble_eq_true rfl) (fun p e s m args below meth c ls S hr hlocks _ hK hA hG hl => b_X5_in_0 S hr hlocks hK hA v lo hi rfl _ _ hG ls hl)
/-- the pure words of 'in' -/
theorem ri_in {v lo hi : Int32} (h : ¬ bI (f_X5_in v lo hi) = 0) : lo ≤ v ∧ v ≤ hi := by
  have h := bI_t h
  unfold f_X5_in at h
  by_cases h1 : v < lo
  · rw [if_pos h1] at h; cases h
  · rw [if_neg h1] at h
    by_cases h2 : hi < v
    · rw [if_pos h2] at h; cases h
    · exact ⟨Int32.not_lt.mp h1, Int32.not_lt.mp h2⟩
theorem ri_vp {v hi : Int32} {n : Nat} (h : ¬ bI (f_X5_in v 0 hi) = 0) (hn : hi.toInt < n) : vp_in v n := by
  obtain ⟨h1, h2⟩ := ri_in h
  rw [Int32.le_iff_toInt_le] at h1 h2
  exact vp_in_iff.mpr ⟨h1, by omega⟩
/-- counts below their bound; places of the saving loops -/
theorem ri_cnt {x : Int32} (h : ∃ n : Nat, n ≤ 40 ∧ x = nI n) (hn : ¬ x = 40) : vp_in x 40 := by
  obtain ⟨n, h1, rfl⟩ := h
  refine vp_in_nI (Nat.lt_of_le_of_ne h1 (fun q => hn ?_)) (by decide)
  subst q; rfl
theorem ri_loop {t v : Int32} {n : Nat} (h : ∃ k : Nat, t = nI k ∧ k ≤ 6 ∧ 7 ≤ k + (n + 1)) (hc : ¬ 6 ≤ t) (e : v = t + 1) : ∃ k : Nat, v = nI k ∧ k ≤ 6 ∧ 7 ≤ k + n := by
  obtain ⟨k, rfl, h1, h2⟩ := h
  refine ⟨k + 1, by rw [e]; exact nI_1 k, ?_, by omega⟩
  rcases Nat.lt_or_ge k 6 with q | q
  · omega
  · exact absurd (show nI 6 ≤ nI k from nI_le q (by omega)) hc
theorem ri_t6 {t : Int32} {n : Nat} (h : ∃ k : Nat, t = nI k ∧ k ≤ 6 ∧ 7 ≤ k + (n + 1)) (hc : ¬ 6 ≤ t) : vp_in t 6 := by
  obtain ⟨k, rfl, h1, h2⟩ := h
  rcases Nat.lt_or_ge k 6 with q | q
  · exact vp_in_nI q (by decide)
  · exact absurd (show nI 6 ≤ nI k from nI_le q (by omega)) hc
theorem ri_sav {a t : Int32} {n : Nat} (ha : vp_in a 300) (h : ∃ k : Nat, t = nI k ∧ k ≤ 6 ∧ 7 ≤ k + (n + 1)) (hc : ¬ 6 ≤ t) : vp_in (6 * a + t) 1800 := by
  obtain ⟨j, hj, rfl⟩ := vp_in_of ha (by decide)
  have h6 := ri_t6 h hc
  obtain ⟨k, hk, rfl⟩ := vp_in_of h6 (by decide)
  have e : (6 : Int32) * nI j + nI k = nI (6 * j + k) := by
    rw [show (6 : Int32) = nI 6 from rfl, pk_mul, nI_add]
  rw [e]
  exact vp_in_nI (by omega) (by decide)
def f_X5_isSensor (x1 : Int32) : Bool :=
  (f_X5_in x1 0 7)
set_option maxRecDepth 100000 in
set_option maxHeartbeats 4000000 in
theorem b_X5_isSensor_0 {p : Program} {l : Launch} {e : Env} {s : State} {m : MethodId} {args : Array Value} {below : List Frame} {meth : Method} {c : Code} {D : va_G} {cl : List vw_C} {tys : List (ClassId × FieldType)} {w w0 : va_W} {X : Bool} (S : CallFix p m c cX5_isSensor 1 s args wsX5_isSensor RX5) (hr : meth.sig.returnType = (some .boolean)) (hlocks : meth.locks = false) (hK : va_K D cl tys s) (hA : ∀ q, s.heap.size ≤ q → va_A w0 s.heap.size q) (x1 : Int32) (hf : f_X5_isSensor x1 = X) (H : Heap) (locs : List Loc) (hG : wI D cl (va_A w0 s.heap.size) s.heap H locs w) (ls : Array Slot) (hl : lv_has ls 1 [(0, .int x1)]) : W p l e ({ frames := 1, cells := 0, slots := 0, locals := 22 } : Room) s m args below meth c H locs 0 0 (MQ below (va_Qi (fun (r : Int32) (_ : Unit) => r = bI X) (fun u t => wPost D cl w0 s.heap.size ((fun _ => w) u) t) (va_A w0 s.heap.size)) args s 0 0 (va_A w0 s.heap.size)) (F0 m 0 ls []) := by
  unfold f_X5_isSensor at hf
  refine lv_iload_n S.1 S.2.1 dX5_isSensor_0 rfl (lv_at hl 0 rfl) ?_
  refine lv_iconst (v := 0) S.1 S.2.1 dX5_isSensor_1 (by decide) ?_
  refine lv_bipush (v := 7) S.1 S.2.1 dX5_isSensor_2 (by decide) ?_
  refine r_callSi S hK hA hG (k_X5_in l _ _ _ _ _ _ _) (cwS 3 S.2.2.2.2 gX5_isSensor_X5_in rfl rfl rfl (by decide +kernel) ⟨Nat.le_of_ble_eq_true rfl, Nat.le_of_ble_eq_true rfl⟩) rfl hl.1 rfl (Nat.le_of_ble_eq_true rfl) dX5_isSensor_4 ⟨Nat.le_of_ble_eq_true rfl, Nat.le_of_ble_eq_true rfl⟩ (fun r4 _ H locs hw hG => ?_)
  obtain rfl := hw
  exact r_iret S hr hlocks hG () rfl (congrArg bI hf) (bI_nar (f_X5_in x1 0 7)) dX5_isSensor_7
theorem k_X5_isSensor (l : Launch) (D : va_G) (cl : List vw_C) (tys : List (ClassId × FieldType)) (w : va_W) (x1 : Int32) : CMi l yX5_isSensor wsX5_isSensor ({ frames := 1, cells := 0, slots := 0, locals := 22 } : Room) D cl tys w [.int x1] (fun (r : Int32) (_ : Unit) => r = bI (f_X5_isSensor x1)) (fun _ => w) :=
  r_met (by decide) rfl (Nat.le_of_ble_eq_true rfl) (fun p e s m args below meth c ls S hr hlocks _ hK hA hG hl => b_X5_isSensor_0 S hr hlocks hK hA x1 rfl _ _ hG ls hl)
def f_X5_isTank (x1 : Int32) : Bool :=
  (f_X5_in x1 0 5)
set_option maxRecDepth 100000 in
set_option maxHeartbeats 4000000 in
theorem b_X5_isTank_0 {p : Program} {l : Launch} {e : Env} {s : State} {m : MethodId} {args : Array Value} {below : List Frame} {meth : Method} {c : Code} {D : va_G} {cl : List vw_C} {tys : List (ClassId × FieldType)} {w w0 : va_W} {X : Bool} (S : CallFix p m c cX5_isTank 1 s args wsX5_isTank RX5) (hr : meth.sig.returnType = (some .boolean)) (hlocks : meth.locks = false) (hK : va_K D cl tys s) (hA : ∀ q, s.heap.size ≤ q → va_A w0 s.heap.size q) (x1 : Int32) (hf : f_X5_isTank x1 = X) (H : Heap) (locs : List Loc) (hG : wI D cl (va_A w0 s.heap.size) s.heap H locs w) (ls : Array Slot) (hl : lv_has ls 1 [(0, .int x1)]) : W p l e ({ frames := 1, cells := 0, slots := 0, locals := 22 } : Room) s m args below meth c H locs 0 0 (MQ below (va_Qi (fun (r : Int32) (_ : Unit) => r = bI X) (fun u t => wPost D cl w0 s.heap.size ((fun _ => w) u) t) (va_A w0 s.heap.size)) args s 0 0 (va_A w0 s.heap.size)) (F0 m 0 ls []) := by
  unfold f_X5_isTank at hf
  refine lv_iload_n S.1 S.2.1 dX5_isTank_0 rfl (lv_at hl 0 rfl) ?_
  refine lv_iconst (v := 0) S.1 S.2.1 dX5_isTank_1 (by decide) ?_
  refine lv_iconst (v := 5) S.1 S.2.1 dX5_isTank_2 (by decide) ?_
  refine r_callSi S hK hA hG (k_X5_in l _ _ _ _ _ _ _) (cwS 3 S.2.2.2.2 gX5_isTank_X5_in rfl rfl rfl (by decide +kernel) ⟨Nat.le_of_ble_eq_true rfl, Nat.le_of_ble_eq_true rfl⟩) rfl hl.1 rfl (Nat.le_of_ble_eq_true rfl) dX5_isTank_3 ⟨Nat.le_of_ble_eq_true rfl, Nat.le_of_ble_eq_true rfl⟩ (fun r3 _ H locs hw hG => ?_)
  obtain rfl := hw
  exact r_iret S hr hlocks hG () rfl (congrArg bI hf) (bI_nar (f_X5_in x1 0 5)) dX5_isTank_6
theorem k_X5_isTank (l : Launch) (D : va_G) (cl : List vw_C) (tys : List (ClassId × FieldType)) (w : va_W) (x1 : Int32) : CMi l yX5_isTank wsX5_isTank ({ frames := 1, cells := 0, slots := 0, locals := 22 } : Room) D cl tys w [.int x1] (fun (r : Int32) (_ : Unit) => r = bI (f_X5_isTank x1)) (fun _ => w) :=
  r_met (by decide) rfl (Nat.le_of_ble_eq_true rfl) (fun p e s m args below meth c ls S hr hlocks _ hK hA hG hl => b_X5_isTank_0 S hr hlocks hK hA x1 rfl _ _ hG ls hl)
theorem in_X5_show : ∀ w ∈ wsX50, w ∈ wsX5_show := by decide +kernel
def f_X5_show (σ : Mem) (x1 : Int32) (x2 : Int32) : Int32 × Mem :=
  (if (bI (f_X5_isSensor x1)) = 0 then
  bnd (mset σ 0 24 (-2)) fun σ1 =>
  (0, σ1)
  else
  bnd (mset σ 0 24 0) fun σ2 =>
  bnd (σ2 1 x1.toNatClampNeg) fun v3 =>
  bnd (mset σ2 1 x1.toNatClampNeg x2) fun σ4 =>
  (v3, σ4))
set_option maxRecDepth 100000 in
set_option maxHeartbeats 4000000 in
theorem b_X5_show_0 {p : Program} {l : Launch} {e : Env} {s : State} {m : MethodId} {args : Array Value} {below : List Frame} {meth : Method} {c : Code} {D : va_G} {cI : ClassId} {ad : Nat → Nat} {w0 : va_W} {X : Int32 × Mem} (S : CallFix p m c cX5_show 4 s args wsX5_show RX5) (hr : meth.sig.returnType = (some .int)) (hlocks : meth.locks = false) (hK : va_K D vwCl [(cI, .int)] s) (hA : ∀ q, s.heap.size ≤ q → va_A w0 s.heap.size q) (σ : Mem) (x1 : Int32) (x2 : Int32) (hf : f_X5_show σ x1 x2 = X) (H : Heap) (locs : List Loc) (hG : wI D vwCl (va_A w0 s.heap.size) s.heap H locs (RW ad cI σ)) (ls : Array Slot) (hl : lv_has ls 4 [(0, .ref (ad 0)), (1, .int x1), (2, .int x2)]) : W p l e ({ frames := 2, cells := 0, slots := 0, locals := 42 } : Room) s m args below meth c H locs 0 0 (MQ below (va_Qi (fun (r : Int32) (u : Mem) => (r, u) = X) (fun u t => wPost D vwCl w0 s.heap.size ((fun u => RW ad cI u) u) t) (va_A w0 s.heap.size)) args s 0 0 (va_A w0 s.heap.size)) (F0 m 0 ls []) := by
  have hin := in_X5_show
  unfold f_X5_show at hf
  refine lv_aload_n S.1 S.2.1 dX5_show_0 rfl (lv_at hl 0 rfl) ?_
  refine lv_iload_n S.1 S.2.1 dX5_show_1 rfl (lv_at hl 1 rfl) ?_
  refine r_callSi S hK hA hG (k_X5_isSensor l _ _ _ _ _) (cwS 1 S.2.2.2.2 gX5_show_X5_isSensor rfl rfl rfl (by decide +kernel) ⟨Nat.le_of_ble_eq_true rfl, Nat.le_of_ble_eq_true rfl⟩) rfl hl.1 rfl (Nat.le_of_ble_eq_true rfl) dX5_show_2 ⟨Nat.le_of_ble_eq_true rfl, Nat.le_of_ble_eq_true rfl⟩ (fun r2 _ H locs hw hG => ?_)
  obtain rfl := hw
  refine lv_if_eq (tgt := 12) S.1 S.2.1 dX5_show_5 (by decide) (fun c_5 => ?_) (fun c_5 => ?_)
  · have hf := ite_p c_5 hf
    refine lv_bipush (v := (-2)) S.1 S.2.1 dX5_show_12 (by decide) ?_
    refine M_put S hin hK hG 24 (by decide) (by decide +kernel) rfl rfl rfl (RWp_24 _ _ _ _) dX5_show_14 (fun σ1 H locs e_σ1 hG => ?_)
    have hf := bnd_p e_σ1 hf
    refine lv_aload_n S.1 S.2.1 dX5_show_17 rfl (lv_at hl 0 rfl) ?_
    refine M_get S hin hK hG 24 (v := .int ((-2))) (by decide) (by decide +kernel) (by rw [e_σ1]; rfl) dX5_show_18 ?_
    refine lv_if_ge (tgt := 26) S.1 S.2.1 dX5_show_21 (by decide) (fun c_ => absurd c_ (by decide)) (fun _ => ?_)
    refine lv_iconst (v := 0) S.1 S.2.1 dX5_show_24 (by decide) ?_
    exact r_iret S hr hlocks hG _ rfl hf rfl dX5_show_25
  · have hf := ite_n c_5 hf
    refine lv_iconst (v := 0) S.1 S.2.1 dX5_show_8 (by decide) ?_
    refine lv_goto (tgt := 14) S.1 S.2.1 dX5_show_9 (by decide) ?_
    refine M_put S hin hK hG 24 (by decide) (by decide +kernel) rfl rfl rfl (RWp_24 _ _ _ _) dX5_show_14 (fun σ2 H locs e_σ2 hG => ?_)
    have hf := bnd_p e_σ2 hf
    refine lv_aload_n S.1 S.2.1 dX5_show_17 rfl (lv_at hl 0 rfl) ?_
    refine M_get S hin hK hG 24 (v := .int 0) (by decide) (by decide +kernel) (by rw [e_σ2]; rfl) dX5_show_18 ?_
    refine lv_if_ge (tgt := 26) S.1 S.2.1 dX5_show_21 (by decide) (fun _ => ?_) (fun c_ => absurd c_ (by decide))
    refine lv_aload_n S.1 S.2.1 dX5_show_26 rfl (lv_at hl 0 rfl) ?_
    refine M_get S hin hK hG 0 (by decide) (by decide +kernel) rfl dX5_show_27 ?_
    refine lv_iload_n S.1 S.2.1 dX5_show_30 rfl (lv_at hl 1 rfl) ?_
    refine r_iald S hK hG 1 0 rfl rfl (ri_vp c_5 (by decide)) dX5_show_31 ?_
    refine lv_topi (fun v3 e_v3 => ?_)
    have hf := bnd_p e_v3 hf
    refine lv_istore_n (lv' := [(3, .int v3), (0, .ref (ad 0)), (1, .int x1), (2, .int x2)]) S.1 S.2.1 dX5_show_32 rfl hl (by decide) rfl (fun ls hl => ?_)
    refine lv_aload_n S.1 S.2.1 dX5_show_33 rfl (lv_at hl 1 rfl) ?_
    refine M_get S hin hK hG 0 (by decide) (by decide +kernel) rfl dX5_show_34 ?_
    refine lv_iload_n S.1 S.2.1 dX5_show_37 rfl (lv_at hl 2 rfl) ?_
    refine lv_iload_n S.1 S.2.1 dX5_show_38 rfl (lv_at hl 3 rfl) ?_
    refine M_ast S hK hG 1 1 8 rfl (ri_vp c_5 (by decide)) (RWs_1 _ _ _ _ _) dX5_show_39 (fun σ4 H locs e_σ4 hG => ?_)
    have hf := bnd_p e_σ4 hf
    refine lv_iload_n S.1 S.2.1 dX5_show_40 rfl (lv_at hl 0 rfl) ?_
    exact r_iret S hr hlocks hG _ rfl hf rfl dX5_show_41
theorem k_X5_show (l : Launch) (D : va_G) (cI : ClassId) (ad : Nat → Nat) (σ : Mem) (x1 : Int32) (x2 : Int32) : CMi l yX5_show wsX5_show ({ frames := 2, cells := 0, slots := 0, locals := 42 } : Room) D vwCl [(cI, .int)] (RW ad cI σ) [.ref (ad 0), .int x1, .int x2] (fun (r : Int32) (u : Mem) => (r, u) = (f_X5_show σ x1 x2)) (fun u => RW ad cI u) :=
  r_met (by decide) rfl (Nat.le_of_ble_eq_true rfl) (fun p e s m args below meth c ls S hr hlocks _ hK hA hG hl => b_X5_show_0 S hr hlocks hK hA σ x1 x2 rfl _ _ hG ls hl)
theorem in_X5_shown : ∀ w ∈ wsX50, w ∈ wsX5_shown := by decide +kernel
def f_X5_shown (σ : Mem) (x1 : Int32) : Int32 × Mem :=
  (if (bI (f_X5_isSensor x1)) = 0 then
  bnd (mset σ 0 24 (-2)) fun σ1 =>
  (0, σ1)
  else
  bnd (mset σ 0 24 0) fun σ2 =>
  (σ2 1 x1.toNatClampNeg, σ2))
set_option maxRecDepth 100000 in
set_option maxHeartbeats 4000000 in
theorem b_X5_shown_0 {p : Program} {l : Launch} {e : Env} {s : State} {m : MethodId} {args : Array Value} {below : List Frame} {meth : Method} {c : Code} {D : va_G} {cI : ClassId} {ad : Nat → Nat} {w0 : va_W} {X : Int32 × Mem} (S : CallFix p m c cX5_shown 2 s args wsX5_shown RX5) (hr : meth.sig.returnType = (some .int)) (hlocks : meth.locks = false) (hK : va_K D vwCl [(cI, .int)] s) (hA : ∀ q, s.heap.size ≤ q → va_A w0 s.heap.size q) (σ : Mem) (x1 : Int32) (hf : f_X5_shown σ x1 = X) (H : Heap) (locs : List Loc) (hG : wI D vwCl (va_A w0 s.heap.size) s.heap H locs (RW ad cI σ)) (ls : Array Slot) (hl : lv_has ls 2 [(0, .ref (ad 0)), (1, .int x1)]) : W p l e ({ frames := 2, cells := 0, slots := 0, locals := 42 } : Room) s m args below meth c H locs 0 0 (MQ below (va_Qi (fun (r : Int32) (u : Mem) => (r, u) = X) (fun u t => wPost D vwCl w0 s.heap.size ((fun u => RW ad cI u) u) t) (va_A w0 s.heap.size)) args s 0 0 (va_A w0 s.heap.size)) (F0 m 0 ls []) := by
  have hin := in_X5_shown
  unfold f_X5_shown at hf
  refine lv_aload_n S.1 S.2.1 dX5_shown_0 rfl (lv_at hl 0 rfl) ?_
  refine lv_iload_n S.1 S.2.1 dX5_shown_1 rfl (lv_at hl 1 rfl) ?_
  refine r_callSi S hK hA hG (k_X5_isSensor l _ _ _ _ _) (cwS 1 S.2.2.2.2 gX5_shown_X5_isSensor rfl rfl rfl (by decide +kernel) ⟨Nat.le_of_ble_eq_true rfl, Nat.le_of_ble_eq_true rfl⟩) rfl hl.1 rfl (Nat.le_of_ble_eq_true rfl) dX5_shown_2 ⟨Nat.le_of_ble_eq_true rfl, Nat.le_of_ble_eq_true rfl⟩ (fun r2 _ H locs hw hG => ?_)
  obtain rfl := hw
  refine lv_if_eq (tgt := 12) S.1 S.2.1 dX5_shown_5 (by decide) (fun c_5 => ?_) (fun c_5 => ?_)
  · have hf := ite_p c_5 hf
    refine lv_bipush (v := (-2)) S.1 S.2.1 dX5_shown_12 (by decide) ?_
    refine M_put S hin hK hG 24 (by decide) (by decide +kernel) rfl rfl rfl (RWp_24 _ _ _ _) dX5_shown_14 (fun σ1 H locs e_σ1 hG => ?_)
    have hf := bnd_p e_σ1 hf
    refine lv_aload_n S.1 S.2.1 dX5_shown_17 rfl (lv_at hl 0 rfl) ?_
    refine M_get S hin hK hG 24 (v := .int ((-2))) (by decide) (by decide +kernel) (by rw [e_σ1]; rfl) dX5_shown_18 ?_
    refine lv_if_ge (tgt := 28) S.1 S.2.1 dX5_shown_21 (by decide) (fun c_ => absurd c_ (by decide)) (fun _ => ?_)
    refine lv_iconst (v := 0) S.1 S.2.1 dX5_shown_24 (by decide) ?_
    refine lv_goto (tgt := 34) S.1 S.2.1 dX5_shown_25 (by decide) ?_
    exact r_iret S hr hlocks hG _ rfl hf rfl dX5_shown_34
  · have hf := ite_n c_5 hf
    refine lv_iconst (v := 0) S.1 S.2.1 dX5_shown_8 (by decide) ?_
    refine lv_goto (tgt := 14) S.1 S.2.1 dX5_shown_9 (by decide) ?_
    refine M_put S hin hK hG 24 (by decide) (by decide +kernel) rfl rfl rfl (RWp_24 _ _ _ _) dX5_shown_14 (fun σ2 H locs e_σ2 hG => ?_)
    have hf := bnd_p e_σ2 hf
    refine lv_aload_n S.1 S.2.1 dX5_shown_17 rfl (lv_at hl 0 rfl) ?_
    refine M_get S hin hK hG 24 (v := .int 0) (by decide) (by decide +kernel) (by rw [e_σ2]; rfl) dX5_shown_18 ?_
    refine lv_if_ge (tgt := 28) S.1 S.2.1 dX5_shown_21 (by decide) (fun _ => ?_) (fun c_ => absurd c_ (by decide))
    refine lv_aload_n S.1 S.2.1 dX5_shown_28 rfl (lv_at hl 0 rfl) ?_
    refine M_get S hin hK hG 0 (by decide) (by decide +kernel) rfl dX5_shown_29 ?_
    refine lv_iload_n S.1 S.2.1 dX5_shown_32 rfl (lv_at hl 1 rfl) ?_
    refine r_iald S hK hG 1 0 rfl rfl (ri_vp c_5 (by decide)) dX5_shown_33 ?_
    exact r_iret S hr hlocks hG _ rfl hf rfl dX5_shown_34
theorem k_X5_shown (l : Launch) (D : va_G) (cI : ClassId) (ad : Nat → Nat) (σ : Mem) (x1 : Int32) : CMi l yX5_shown wsX5_shown ({ frames := 2, cells := 0, slots := 0, locals := 42 } : Room) D vwCl [(cI, .int)] (RW ad cI σ) [.ref (ad 0), .int x1] (fun (r : Int32) (u : Mem) => (r, u) = (f_X5_shown σ x1)) (fun u => RW ad cI u) :=
  r_met (by decide) rfl (Nat.le_of_ble_eq_true rfl) (fun p e s m args below meth c ls S hr hlocks _ hK hA hG hl => b_X5_shown_0 S hr hlocks hK hA σ x1 rfl _ _ hG ls hl)
theorem in_X5_fill : ∀ w ∈ wsX50, w ∈ wsX5_fill := by decide +kernel
def f_X5_fill (σ : Mem) (x1 : Int32) (x2 : Int32) : Int32 × Mem :=
  (if (bI (f_X5_isTank x1)) = 0 then
  ((-2), σ)
  else
  (if (bI (f_X5_in x2 0 1000000)) = 0 then
  ((-3), σ)
  else
  bnd (σ 2 x1.toNatClampNeg) fun v1 =>
  bnd (mset σ 2 x1.toNatClampNeg x2) fun σ2 =>
  (v1, σ2)))
set_option maxRecDepth 100000 in
set_option maxHeartbeats 4000000 in
theorem b_X5_fill_0 {p : Program} {l : Launch} {e : Env} {s : State} {m : MethodId} {args : Array Value} {below : List Frame} {meth : Method} {c : Code} {D : va_G} {cI : ClassId} {ad : Nat → Nat} {w0 : va_W} {X : Int32 × Mem} (S : CallFix p m c cX5_fill 4 s args wsX5_fill RX5) (hr : meth.sig.returnType = (some .int)) (hlocks : meth.locks = false) (hK : va_K D vwCl [(cI, .int)] s) (hA : ∀ q, s.heap.size ≤ q → va_A w0 s.heap.size q) (σ : Mem) (x1 : Int32) (x2 : Int32) (hf : f_X5_fill σ x1 x2 = X) (H : Heap) (locs : List Loc) (hG : wI D vwCl (va_A w0 s.heap.size) s.heap H locs (RW ad cI σ)) (ls : Array Slot) (hl : lv_has ls 4 [(0, .ref (ad 0)), (1, .int x1), (2, .int x2)]) : W p l e ({ frames := 2, cells := 0, slots := 0, locals := 42 } : Room) s m args below meth c H locs 0 0 (MQ below (va_Qi (fun (r : Int32) (u : Mem) => (r, u) = X) (fun u t => wPost D vwCl w0 s.heap.size ((fun u => RW ad cI u) u) t) (va_A w0 s.heap.size)) args s 0 0 (va_A w0 s.heap.size)) (F0 m 0 ls []) := by
  have hin := in_X5_fill
  unfold f_X5_fill at hf
  refine lv_iload_n S.1 S.2.1 dX5_fill_0 rfl (lv_at hl 1 rfl) ?_
  refine r_callSi S hK hA hG (k_X5_isTank l _ _ _ _ _) (cwS 1 S.2.2.2.2 gX5_fill_X5_isTank rfl rfl rfl (by decide +kernel) ⟨Nat.le_of_ble_eq_true rfl, Nat.le_of_ble_eq_true rfl⟩) rfl hl.1 rfl (Nat.le_of_ble_eq_true rfl) dX5_fill_1 ⟨Nat.le_of_ble_eq_true rfl, Nat.le_of_ble_eq_true rfl⟩ (fun r1 _ H locs hw hG => ?_)
  obtain rfl := hw
  refine lv_if_ne (tgt := 10) S.1 S.2.1 dX5_fill_4 (by decide) (fun c_4 => ?_) (fun c_4 => ?_)
  · have hf := ite_n c_4 hf
    refine lv_iload_n S.1 S.2.1 dX5_fill_10 rfl (lv_at hl 2 rfl) ?_
    refine lv_iconst (v := 0) S.1 S.2.1 dX5_fill_11 (by decide) ?_
    refine lv_ldc (v := 1000000) S.1 S.2.1 S.2.2.2.1 (S.2.2.2.2 (.constant RX5 91 1000000) (by decide +kernel)) dX5_fill_12 ?_
    refine r_callSi S hK hA hG (k_X5_in l _ _ _ _ _ _ _) (cwS 3 S.2.2.2.2 gX5_fill_X5_in rfl rfl rfl (by decide +kernel) ⟨Nat.le_of_ble_eq_true rfl, Nat.le_of_ble_eq_true rfl⟩) rfl hl.1 rfl (Nat.le_of_ble_eq_true rfl) dX5_fill_14 ⟨Nat.le_of_ble_eq_true rfl, Nat.le_of_ble_eq_true rfl⟩ (fun r14 _ H locs hw hG => ?_)
    obtain rfl := hw
    refine lv_if_ne (tgt := 23) S.1 S.2.1 dX5_fill_17 (by decide) (fun c_17 => ?_) (fun c_17 => ?_)
    · have hf := ite_n c_17 hf
      refine lv_aload_n S.1 S.2.1 dX5_fill_23 rfl (lv_at hl 0 rfl) ?_
      refine M_get S hin hK hG 1 (by decide) (by decide +kernel) rfl dX5_fill_24 ?_
      refine lv_iload_n S.1 S.2.1 dX5_fill_27 rfl (lv_at hl 1 rfl) ?_
      refine r_iald S hK hG 2 0 rfl rfl (ri_vp c_4 (by decide)) dX5_fill_28 ?_
      refine lv_topi (fun v1 e_v1 => ?_)
      have hf := bnd_p e_v1 hf
      refine lv_istore_n (lv' := [(3, .int v1), (0, .ref (ad 0)), (1, .int x1), (2, .int x2)]) S.1 S.2.1 dX5_fill_29 rfl hl (by decide) rfl (fun ls hl => ?_)
      refine lv_aload_n S.1 S.2.1 dX5_fill_30 rfl (lv_at hl 1 rfl) ?_
      refine M_get S hin hK hG 1 (by decide) (by decide +kernel) rfl dX5_fill_31 ?_
      refine lv_iload_n S.1 S.2.1 dX5_fill_34 rfl (lv_at hl 2 rfl) ?_
      refine lv_iload_n S.1 S.2.1 dX5_fill_35 rfl (lv_at hl 3 rfl) ?_
      refine M_ast S hK hG 2 2 6 rfl (ri_vp c_4 (by decide)) (RWs_2 _ _ _ _ _) dX5_fill_36 (fun σ2 H locs e_σ2 hG => ?_)
      have hf := bnd_p e_σ2 hf
      refine lv_iload_n S.1 S.2.1 dX5_fill_37 rfl (lv_at hl 0 rfl) ?_
      exact r_iret S hr hlocks hG _ rfl hf rfl dX5_fill_38
    · have hf := ite_p c_17 hf
      refine lv_bipush (v := (-3)) S.1 S.2.1 dX5_fill_20 (by decide) ?_
      exact r_iret S hr hlocks hG _ rfl hf rfl dX5_fill_22
  · have hf := ite_p c_4 hf
    refine lv_bipush (v := (-2)) S.1 S.2.1 dX5_fill_7 (by decide) ?_
    exact r_iret S hr hlocks hG _ rfl hf rfl dX5_fill_9
theorem k_X5_fill (l : Launch) (D : va_G) (cI : ClassId) (ad : Nat → Nat) (σ : Mem) (x1 : Int32) (x2 : Int32) : CMi l yX5_fill wsX5_fill ({ frames := 2, cells := 0, slots := 0, locals := 42 } : Room) D vwCl [(cI, .int)] (RW ad cI σ) [.ref (ad 0), .int x1, .int x2] (fun (r : Int32) (u : Mem) => (r, u) = (f_X5_fill σ x1 x2)) (fun u => RW ad cI u) :=
  r_met (by decide) rfl (Nat.le_of_ble_eq_true rfl) (fun p e s m args below meth c ls S hr hlocks _ hK hA hG hl => b_X5_fill_0 S hr hlocks hK hA σ x1 x2 rfl _ _ hG ls hl)
theorem in_X5_tank : ∀ w ∈ wsX50, w ∈ wsX5_tank := by decide +kernel
def f_X5_tank (σ : Mem) (x1 : Int32) : Int32 :=
  (if (bI (f_X5_isTank x1)) = 0 then
  (-2)
  else
  σ 2 x1.toNatClampNeg)
set_option maxRecDepth 100000 in
set_option maxHeartbeats 4000000 in
theorem b_X5_tank_0 {p : Program} {l : Launch} {e : Env} {s : State} {m : MethodId} {args : Array Value} {below : List Frame} {meth : Method} {c : Code} {D : va_G} {cI : ClassId} {ad : Nat → Nat} {w0 : va_W} {X : Int32} (S : CallFix p m c cX5_tank 2 s args wsX5_tank RX5) (hr : meth.sig.returnType = (some .int)) (hlocks : meth.locks = false) (hK : va_K D vwCl [(cI, .int)] s) (hA : ∀ q, s.heap.size ≤ q → va_A w0 s.heap.size q) (σ : Mem) (x1 : Int32) (hf : f_X5_tank σ x1 = X) (H : Heap) (locs : List Loc) (hG : wI D vwCl (va_A w0 s.heap.size) s.heap H locs (RW ad cI σ)) (ls : Array Slot) (hl : lv_has ls 2 [(0, .ref (ad 0)), (1, .int x1)]) : W p l e ({ frames := 2, cells := 0, slots := 0, locals := 42 } : Room) s m args below meth c H locs 0 0 (MQ below (va_Qi (fun (r : Int32) (_ : Unit) => r = X) (fun u t => wPost D vwCl w0 s.heap.size ((fun _ => RW ad cI σ) u) t) (va_A w0 s.heap.size)) args s 0 0 (va_A w0 s.heap.size)) (F0 m 0 ls []) := by
  have hin := in_X5_tank
  unfold f_X5_tank at hf
  refine lv_iload_n S.1 S.2.1 dX5_tank_0 rfl (lv_at hl 1 rfl) ?_
  refine r_callSi S hK hA hG (k_X5_isTank l _ _ _ _ _) (cwS 1 S.2.2.2.2 gX5_tank_X5_isTank rfl rfl rfl (by decide +kernel) ⟨Nat.le_of_ble_eq_true rfl, Nat.le_of_ble_eq_true rfl⟩) rfl hl.1 rfl (Nat.le_of_ble_eq_true rfl) dX5_tank_1 ⟨Nat.le_of_ble_eq_true rfl, Nat.le_of_ble_eq_true rfl⟩ (fun r1 _ H locs hw hG => ?_)
  obtain rfl := hw
  refine lv_if_eq (tgt := 16) S.1 S.2.1 dX5_tank_4 (by decide) (fun c_4 => ?_) (fun c_4 => ?_)
  · have hf := ite_p c_4 hf
    refine lv_bipush (v := (-2)) S.1 S.2.1 dX5_tank_16 (by decide) ?_
    exact r_iret S hr hlocks hG () rfl hf rfl dX5_tank_18
  · have hf := ite_n c_4 hf
    refine lv_aload_n S.1 S.2.1 dX5_tank_7 rfl (lv_at hl 0 rfl) ?_
    refine M_get S hin hK hG 1 (by decide) (by decide +kernel) rfl dX5_tank_8 ?_
    refine lv_iload_n S.1 S.2.1 dX5_tank_11 rfl (lv_at hl 1 rfl) ?_
    refine r_iald S hK hG 2 0 rfl rfl (ri_vp c_4 (by decide)) dX5_tank_12 ?_
    refine lv_goto (tgt := 18) S.1 S.2.1 dX5_tank_13 (by decide) ?_
    exact r_iret S hr hlocks hG () rfl hf rfl dX5_tank_18
theorem k_X5_tank (l : Launch) (D : va_G) (cI : ClassId) (ad : Nat → Nat) (σ : Mem) (x1 : Int32) : CMi l yX5_tank wsX5_tank ({ frames := 2, cells := 0, slots := 0, locals := 42 } : Room) D vwCl [(cI, .int)] (RW ad cI σ) [.ref (ad 0), .int x1] (fun (r : Int32) (_ : Unit) => r = (f_X5_tank σ x1)) (fun _ => RW ad cI σ) :=
  r_met (by decide) rfl (Nat.le_of_ble_eq_true rfl) (fun p e s m args below meth c ls S hr hlocks _ hK hA hG hl => b_X5_tank_0 S hr hlocks hK hA σ x1 rfl _ _ hG ls hl)
theorem in_X5_isRule : ∀ w ∈ wsX50, w ∈ wsX5_isRule := by decide +kernel
def f_X5_isRule (σ : Mem) (x1 : Int32) : Bool :=
  (f_X5_in x1 0 ((σ 0 3) - 1))
set_option maxRecDepth 100000 in
set_option maxHeartbeats 4000000 in
theorem b_X5_isRule_0 {p : Program} {l : Launch} {e : Env} {s : State} {m : MethodId} {args : Array Value} {below : List Frame} {meth : Method} {c : Code} {D : va_G} {cI : ClassId} {ad : Nat → Nat} {w0 : va_W} {X : Bool} (S : CallFix p m c cX5_isRule 2 s args wsX5_isRule RX5) (hr : meth.sig.returnType = (some .boolean)) (hlocks : meth.locks = false) (hK : va_K D vwCl [(cI, .int)] s) (hA : ∀ q, s.heap.size ≤ q → va_A w0 s.heap.size q) (σ : Mem) (x1 : Int32) (hf : f_X5_isRule σ x1 = X) (H : Heap) (locs : List Loc) (hG : wI D vwCl (va_A w0 s.heap.size) s.heap H locs (RW ad cI σ)) (ls : Array Slot) (hl : lv_has ls 2 [(0, .ref (ad 0)), (1, .int x1)]) : W p l e ({ frames := 1, cells := 0, slots := 0, locals := 22 } : Room) s m args below meth c H locs 0 0 (MQ below (va_Qi (fun (r : Int32) (_ : Unit) => r = bI X) (fun u t => wPost D vwCl w0 s.heap.size ((fun _ => RW ad cI σ) u) t) (va_A w0 s.heap.size)) args s 0 0 (va_A w0 s.heap.size)) (F0 m 0 ls []) := by
  have hin := in_X5_isRule
  unfold f_X5_isRule at hf
  refine lv_iload_n S.1 S.2.1 dX5_isRule_0 rfl (lv_at hl 1 rfl) ?_
  refine lv_iconst (v := 0) S.1 S.2.1 dX5_isRule_1 (by decide) ?_
  refine lv_aload_n S.1 S.2.1 dX5_isRule_2 rfl (lv_at hl 0 rfl) ?_
  refine M_get S hin hK hG 3 (by decide) (by decide +kernel) rfl dX5_isRule_3 ?_
  refine lv_iconst (v := 1) S.1 S.2.1 dX5_isRule_6 (by decide) ?_
  refine lv_isub S.1 S.2.1 dX5_isRule_7 ?_
  refine r_callSi S hK hA hG (k_X5_in l _ _ _ _ _ _ _) (cwS 3 S.2.2.2.2 gX5_isRule_X5_in rfl rfl rfl (by decide +kernel) ⟨Nat.le_of_ble_eq_true rfl, Nat.le_of_ble_eq_true rfl⟩) rfl hl.1 rfl (Nat.le_of_ble_eq_true rfl) dX5_isRule_8 ⟨Nat.le_of_ble_eq_true rfl, Nat.le_of_ble_eq_true rfl⟩ (fun r8 _ H locs hw hG => ?_)
  obtain rfl := hw
  exact r_iret S hr hlocks hG () rfl (congrArg bI hf) (bI_nar (f_X5_in x1 0 ((σ 0 3) - 1))) dX5_isRule_11
theorem k_X5_isRule (l : Launch) (D : va_G) (cI : ClassId) (ad : Nat → Nat) (σ : Mem) (x1 : Int32) : CMi l yX5_isRule wsX5_isRule ({ frames := 1, cells := 0, slots := 0, locals := 22 } : Room) D vwCl [(cI, .int)] (RW ad cI σ) [.ref (ad 0), .int x1] (fun (r : Int32) (_ : Unit) => r = bI (f_X5_isRule σ x1)) (fun _ => RW ad cI σ) :=
  r_met (by decide) rfl (Nat.le_of_ble_eq_true rfl) (fun p e s m args below meth c ls S hr hlocks _ hK hA hG hl => b_X5_isRule_0 S hr hlocks hK hA σ x1 rfl _ _ hG ls hl)
theorem in_X5_isAct : ∀ w ∈ wsX50, w ∈ wsX5_isAct := by decide +kernel
def f_X5_isAct (σ : Mem) (x1 : Int32) : Bool :=
  (f_X5_in x1 0 ((σ 0 9) - 1))
set_option maxRecDepth 100000 in
set_option maxHeartbeats 4000000 in
theorem b_X5_isAct_0 {p : Program} {l : Launch} {e : Env} {s : State} {m : MethodId} {args : Array Value} {below : List Frame} {meth : Method} {c : Code} {D : va_G} {cI : ClassId} {ad : Nat → Nat} {w0 : va_W} {X : Bool} (S : CallFix p m c cX5_isAct 2 s args wsX5_isAct RX5) (hr : meth.sig.returnType = (some .boolean)) (hlocks : meth.locks = false) (hK : va_K D vwCl [(cI, .int)] s) (hA : ∀ q, s.heap.size ≤ q → va_A w0 s.heap.size q) (σ : Mem) (x1 : Int32) (hf : f_X5_isAct σ x1 = X) (H : Heap) (locs : List Loc) (hG : wI D vwCl (va_A w0 s.heap.size) s.heap H locs (RW ad cI σ)) (ls : Array Slot) (hl : lv_has ls 2 [(0, .ref (ad 0)), (1, .int x1)]) : W p l e ({ frames := 1, cells := 0, slots := 0, locals := 22 } : Room) s m args below meth c H locs 0 0 (MQ below (va_Qi (fun (r : Int32) (_ : Unit) => r = bI X) (fun u t => wPost D vwCl w0 s.heap.size ((fun _ => RW ad cI σ) u) t) (va_A w0 s.heap.size)) args s 0 0 (va_A w0 s.heap.size)) (F0 m 0 ls []) := by
  have hin := in_X5_isAct
  unfold f_X5_isAct at hf
  refine lv_iload_n S.1 S.2.1 dX5_isAct_0 rfl (lv_at hl 1 rfl) ?_
  refine lv_iconst (v := 0) S.1 S.2.1 dX5_isAct_1 (by decide) ?_
  refine lv_aload_n S.1 S.2.1 dX5_isAct_2 rfl (lv_at hl 0 rfl) ?_
  refine M_get S hin hK hG 9 (by decide) (by decide +kernel) rfl dX5_isAct_3 ?_
  refine lv_iconst (v := 1) S.1 S.2.1 dX5_isAct_6 (by decide) ?_
  refine lv_isub S.1 S.2.1 dX5_isAct_7 ?_
  refine r_callSi S hK hA hG (k_X5_in l _ _ _ _ _ _ _) (cwS 3 S.2.2.2.2 gX5_isAct_X5_in rfl rfl rfl (by decide +kernel) ⟨Nat.le_of_ble_eq_true rfl, Nat.le_of_ble_eq_true rfl⟩) rfl hl.1 rfl (Nat.le_of_ble_eq_true rfl) dX5_isAct_8 ⟨Nat.le_of_ble_eq_true rfl, Nat.le_of_ble_eq_true rfl⟩ (fun r8 _ H locs hw hG => ?_)
  obtain rfl := hw
  exact r_iret S hr hlocks hG () rfl (congrArg bI hf) (bI_nar (f_X5_in x1 0 ((σ 0 9) - 1))) dX5_isAct_11
theorem k_X5_isAct (l : Launch) (D : va_G) (cI : ClassId) (ad : Nat → Nat) (σ : Mem) (x1 : Int32) : CMi l yX5_isAct wsX5_isAct ({ frames := 1, cells := 0, slots := 0, locals := 22 } : Room) D vwCl [(cI, .int)] (RW ad cI σ) [.ref (ad 0), .int x1] (fun (r : Int32) (_ : Unit) => r = bI (f_X5_isAct σ x1)) (fun _ => RW ad cI σ) :=
  r_met (by decide) rfl (Nat.le_of_ble_eq_true rfl) (fun p e s m args below meth c ls S hr hlocks _ hK hA hG hl => b_X5_isAct_0 S hr hlocks hK hA σ x1 rfl _ _ hG ls hl)
theorem in_X5_isActOrNone : ∀ w ∈ wsX50, w ∈ wsX5_isActOrNone := by decide +kernel
def f_X5_isActOrNone (σ : Mem) (x1 : Int32) : Bool :=
  (if x1 = (-1) then
  true
  else
  (if (bI (f_X5_isAct σ x1)) = 0 then
  false
  else
  true))
set_option maxRecDepth 100000 in
set_option maxHeartbeats 4000000 in
theorem b_X5_isActOrNone_0 {p : Program} {l : Launch} {e : Env} {s : State} {m : MethodId} {args : Array Value} {below : List Frame} {meth : Method} {c : Code} {D : va_G} {cI : ClassId} {ad : Nat → Nat} {w0 : va_W} {X : Bool} (S : CallFix p m c cX5_isActOrNone 2 s args wsX5_isActOrNone RX5) (hr : meth.sig.returnType = (some .boolean)) (hlocks : meth.locks = false) (hK : va_K D vwCl [(cI, .int)] s) (hA : ∀ q, s.heap.size ≤ q → va_A w0 s.heap.size q) (σ : Mem) (x1 : Int32) (hf : f_X5_isActOrNone σ x1 = X) (H : Heap) (locs : List Loc) (hG : wI D vwCl (va_A w0 s.heap.size) s.heap H locs (RW ad cI σ)) (ls : Array Slot) (hl : lv_has ls 2 [(0, .ref (ad 0)), (1, .int x1)]) : W p l e ({ frames := 2, cells := 0, slots := 0, locals := 43 } : Room) s m args below meth c H locs 0 0 (MQ below (va_Qi (fun (r : Int32) (_ : Unit) => r = bI X) (fun u t => wPost D vwCl w0 s.heap.size ((fun _ => RW ad cI σ) u) t) (va_A w0 s.heap.size)) args s 0 0 (va_A w0 s.heap.size)) (F0 m 0 ls []) := by
  have hin := in_X5_isActOrNone
  unfold f_X5_isActOrNone at hf
  refine lv_iload_n S.1 S.2.1 dX5_isActOrNone_0 rfl (lv_at hl 1 rfl) ?_
  refine lv_iconst (v := (-1)) S.1 S.2.1 dX5_isActOrNone_1 (by decide) ?_
  refine lv_icmp_eq (tgt := 13) S.1 S.2.1 dX5_isActOrNone_2 (by decide) (fun c_2 => ?_) (fun c_2 => ?_)
  · have hf := ite_p c_2 hf
    refine lv_iconst (v := 1) S.1 S.2.1 dX5_isActOrNone_13 (by decide) ?_
    refine lv_goto (tgt := 18) S.1 S.2.1 dX5_isActOrNone_14 (by decide) ?_
    exact r_iret S hr hlocks hG () rfl (congrArg bI hf) (bI_nar true) dX5_isActOrNone_18
  · have hf := ite_n c_2 hf
    refine lv_aload_n S.1 S.2.1 dX5_isActOrNone_5 rfl (lv_at hl 0 rfl) ?_
    refine lv_iload_n S.1 S.2.1 dX5_isActOrNone_6 rfl (lv_at hl 1 rfl) ?_
    refine r_callVi S hK hA hG (k_X5_isAct l _ _ _ _ _) (cwV 1 S.2.2.2.2 gX5_isActOrNone_X5_isAct rfl rfl rfl (by decide +kernel) ⟨Nat.le_of_ble_eq_true rfl, Nat.le_of_ble_eq_true rfl⟩) (va_recv hK hG.1 (ci := 5) (q0 := 0) rfl rfl) rfl hl.1 rfl (Nat.le_of_ble_eq_true rfl) dX5_isActOrNone_7 ⟨Nat.le_of_ble_eq_true rfl, Nat.le_of_ble_eq_true rfl⟩ (fun r7 _ H locs hw hG => ?_)
    obtain rfl := hw
    refine lv_if_eq (tgt := 17) S.1 S.2.1 dX5_isActOrNone_10 (by decide) (fun c_10 => ?_) (fun c_10 => ?_)
    · have hf := ite_p c_10 hf
      refine lv_iconst (v := 0) S.1 S.2.1 dX5_isActOrNone_17 (by decide) ?_
      exact r_iret S hr hlocks hG () rfl (congrArg bI hf) (bI_nar false) dX5_isActOrNone_18
    · have hf := ite_n c_10 hf
      refine lv_iconst (v := 1) S.1 S.2.1 dX5_isActOrNone_13 (by decide) ?_
      refine lv_goto (tgt := 18) S.1 S.2.1 dX5_isActOrNone_14 (by decide) ?_
      exact r_iret S hr hlocks hG () rfl (congrArg bI hf) (bI_nar true) dX5_isActOrNone_18
theorem k_X5_isActOrNone (l : Launch) (D : va_G) (cI : ClassId) (ad : Nat → Nat) (σ : Mem) (x1 : Int32) : CMi l yX5_isActOrNone wsX5_isActOrNone ({ frames := 2, cells := 0, slots := 0, locals := 43 } : Room) D vwCl [(cI, .int)] (RW ad cI σ) [.ref (ad 0), .int x1] (fun (r : Int32) (_ : Unit) => r = bI (f_X5_isActOrNone σ x1)) (fun _ => RW ad cI σ) :=
  r_met (by decide) rfl (Nat.le_of_ble_eq_true rfl) (fun p e s m args below meth c ls S hr hlocks _ hK hA hG hl => b_X5_isActOrNone_0 S hr hlocks hK hA σ x1 rfl _ _ hG ls hl)
theorem in_X5_amount : ∀ w ∈ wsX50, w ∈ wsX5_amount := by decide +kernel
def f_X5_amount (σ : Mem) : Int32 :=
  σ 0 21
set_option maxRecDepth 100000 in
set_option maxHeartbeats 4000000 in
theorem b_X5_amount_0 {p : Program} {l : Launch} {e : Env} {s : State} {m : MethodId} {args : Array Value} {below : List Frame} {meth : Method} {c : Code} {D : va_G} {cI : ClassId} {ad : Nat → Nat} {w0 : va_W} {X : Int32} (S : CallFix p m c cX5_amount 1 s args wsX5_amount RX5) (hr : meth.sig.returnType = (some .int)) (hlocks : meth.locks = false) (hK : va_K D vwCl [(cI, .int)] s) (hA : ∀ q, s.heap.size ≤ q → va_A w0 s.heap.size q) (σ : Mem) (hf : f_X5_amount σ = X) (H : Heap) (locs : List Loc) (hG : wI D vwCl (va_A w0 s.heap.size) s.heap H locs (RW ad cI σ)) (ls : Array Slot) (hl : lv_has ls 1 [(0, .ref (ad 0))]) : W p l e ({ frames := 0, cells := 0, slots := 0, locals := 0 } : Room) s m args below meth c H locs 0 0 (MQ below (va_Qi (fun (r : Int32) (_ : Unit) => r = X) (fun u t => wPost D vwCl w0 s.heap.size ((fun _ => RW ad cI σ) u) t) (va_A w0 s.heap.size)) args s 0 0 (va_A w0 s.heap.size)) (F0 m 0 ls []) := by
  have hin := in_X5_amount
  unfold f_X5_amount at hf
  refine lv_aload_n S.1 S.2.1 dX5_amount_0 rfl (lv_at hl 0 rfl) ?_
  refine M_get S hin hK hG 21 (by decide) (by decide +kernel) rfl dX5_amount_1 ?_
  exact r_iret S hr hlocks hG () rfl hf rfl dX5_amount_4
theorem k_X5_amount (l : Launch) (D : va_G) (cI : ClassId) (ad : Nat → Nat) (σ : Mem) : CMi l yX5_amount wsX5_amount ({ frames := 0, cells := 0, slots := 0, locals := 0 } : Room) D vwCl [(cI, .int)] (RW ad cI σ) [.ref (ad 0)] (fun (r : Int32) (_ : Unit) => r = (f_X5_amount σ)) (fun _ => RW ad cI σ) :=
  r_met (by decide) rfl (Nat.le_of_ble_eq_true rfl) (fun p e s m args below meth c ls S hr hlocks _ hK hA hG hl => b_X5_amount_0 S hr hlocks hK hA σ rfl _ _ hG ls hl)
theorem in_X5_why : ∀ w ∈ wsX50, w ∈ wsX5_why := by decide +kernel
def f_X5_why (σ : Mem) : Int32 :=
  σ 0 24
set_option maxRecDepth 100000 in
set_option maxHeartbeats 4000000 in
theorem b_X5_why_0 {p : Program} {l : Launch} {e : Env} {s : State} {m : MethodId} {args : Array Value} {below : List Frame} {meth : Method} {c : Code} {D : va_G} {cI : ClassId} {ad : Nat → Nat} {w0 : va_W} {X : Int32} (S : CallFix p m c cX5_why 1 s args wsX5_why RX5) (hr : meth.sig.returnType = (some .int)) (hlocks : meth.locks = false) (hK : va_K D vwCl [(cI, .int)] s) (hA : ∀ q, s.heap.size ≤ q → va_A w0 s.heap.size q) (σ : Mem) (hf : f_X5_why σ = X) (H : Heap) (locs : List Loc) (hG : wI D vwCl (va_A w0 s.heap.size) s.heap H locs (RW ad cI σ)) (ls : Array Slot) (hl : lv_has ls 1 [(0, .ref (ad 0))]) : W p l e ({ frames := 0, cells := 0, slots := 0, locals := 0 } : Room) s m args below meth c H locs 0 0 (MQ below (va_Qi (fun (r : Int32) (_ : Unit) => r = X) (fun u t => wPost D vwCl w0 s.heap.size ((fun _ => RW ad cI σ) u) t) (va_A w0 s.heap.size)) args s 0 0 (va_A w0 s.heap.size)) (F0 m 0 ls []) := by
  have hin := in_X5_why
  unfold f_X5_why at hf
  refine lv_aload_n S.1 S.2.1 dX5_why_0 rfl (lv_at hl 0 rfl) ?_
  refine M_get S hin hK hG 24 (by decide) (by decide +kernel) rfl dX5_why_1 ?_
  exact r_iret S hr hlocks hG () rfl hf rfl dX5_why_4
theorem k_X5_why (l : Launch) (D : va_G) (cI : ClassId) (ad : Nat → Nat) (σ : Mem) : CMi l yX5_why wsX5_why ({ frames := 0, cells := 0, slots := 0, locals := 0 } : Room) D vwCl [(cI, .int)] (RW ad cI σ) [.ref (ad 0)] (fun (r : Int32) (_ : Unit) => r = (f_X5_why σ)) (fun _ => RW ad cI σ) :=
  r_met (by decide) rfl (Nat.le_of_ble_eq_true rfl) (fun p e s m args below meth c ls S hr hlocks _ hK hA hG hl => b_X5_why_0 S hr hlocks hK hA σ rfl _ _ hG ls hl)
theorem in_X5_count : ∀ w ∈ wsX50, w ∈ wsX5_count := by decide +kernel
def f_X5_count (σ : Mem) (x1 : Int32) : Int32 :=
  (if x1 = 0 then
  σ 0 3
  else
  (if x1 = 1 then
  σ 0 9
  else
  (if x1 = 2 then
  σ 0 14
  else
  (if x1 = 3 then
  σ 0 2
  else
  (if x1 = 4 then
  σ 0 17
  else
  (if x1 = 5 then
  σ 0 22
  else
  (if x1 = 6 then
  σ 0 23
  else
  (-3))))))))
set_option maxRecDepth 100000 in
set_option maxHeartbeats 4000000 in
theorem b_X5_count_0 {p : Program} {l : Launch} {e : Env} {s : State} {m : MethodId} {args : Array Value} {below : List Frame} {meth : Method} {c : Code} {D : va_G} {cI : ClassId} {ad : Nat → Nat} {w0 : va_W} {X : Int32} (S : CallFix p m c cX5_count 2 s args wsX5_count RX5) (hr : meth.sig.returnType = (some .int)) (hlocks : meth.locks = false) (hK : va_K D vwCl [(cI, .int)] s) (hA : ∀ q, s.heap.size ≤ q → va_A w0 s.heap.size q) (σ : Mem) (x1 : Int32) (hf : f_X5_count σ x1 = X) (H : Heap) (locs : List Loc) (hG : wI D vwCl (va_A w0 s.heap.size) s.heap H locs (RW ad cI σ)) (ls : Array Slot) (hl : lv_has ls 2 [(0, .ref (ad 0)), (1, .int x1)]) : W p l e ({ frames := 0, cells := 0, slots := 0, locals := 0 } : Room) s m args below meth c H locs 0 0 (MQ below (va_Qi (fun (r : Int32) (_ : Unit) => r = X) (fun u t => wPost D vwCl w0 s.heap.size ((fun _ => RW ad cI σ) u) t) (va_A w0 s.heap.size)) args s 0 0 (va_A w0 s.heap.size)) (F0 m 0 ls []) := by
  have hin := in_X5_count
  unfold f_X5_count at hf
  refine lv_iload_n S.1 S.2.1 dX5_count_0 rfl (lv_at hl 1 rfl) ?_
  refine (Decidable.em (x1 = 0)).elim (fun c_1_0 => ?_) (fun c_1_0 => ?_)
  · have hf := ite_p c_1_0 hf
    refine lv_tableIn (off := 43) (tgt := 44) S.1 S.2.1 dX5_count_1 (by rw [c_1_0]; decide) (by rw [c_1_0]; decide) (by rw [c_1_0]; rfl) (by decide) ?_
    refine lv_aload_n S.1 S.2.1 dX5_count_44 rfl (lv_at hl 0 rfl) ?_
    refine M_get S hin hK hG 3 (by decide) (by decide +kernel) rfl dX5_count_45 ?_
    exact r_iret S hr hlocks hG () rfl hf rfl dX5_count_48
  have hf := ite_n c_1_0 hf
  refine (Decidable.em (x1 = 1)).elim (fun c_1_1 => ?_) (fun c_1_1 => ?_)
  · have hf := ite_p c_1_1 hf
    refine lv_tableIn (off := 48) (tgt := 49) S.1 S.2.1 dX5_count_1 (by rw [c_1_1]; decide) (by rw [c_1_1]; decide) (by rw [c_1_1]; rfl) (by decide) ?_
    refine lv_aload_n S.1 S.2.1 dX5_count_49 rfl (lv_at hl 0 rfl) ?_
    refine M_get S hin hK hG 9 (by decide) (by decide +kernel) rfl dX5_count_50 ?_
    exact r_iret S hr hlocks hG () rfl hf rfl dX5_count_53
  have hf := ite_n c_1_1 hf
  refine (Decidable.em (x1 = 2)).elim (fun c_1_2 => ?_) (fun c_1_2 => ?_)
  · have hf := ite_p c_1_2 hf
    refine lv_tableIn (off := 53) (tgt := 54) S.1 S.2.1 dX5_count_1 (by rw [c_1_2]; decide) (by rw [c_1_2]; decide) (by rw [c_1_2]; rfl) (by decide) ?_
    refine lv_aload_n S.1 S.2.1 dX5_count_54 rfl (lv_at hl 0 rfl) ?_
    refine M_get S hin hK hG 14 (by decide) (by decide +kernel) rfl dX5_count_55 ?_
    exact r_iret S hr hlocks hG () rfl hf rfl dX5_count_58
  have hf := ite_n c_1_2 hf
  refine (Decidable.em (x1 = 3)).elim (fun c_1_3 => ?_) (fun c_1_3 => ?_)
  · have hf := ite_p c_1_3 hf
    refine lv_tableIn (off := 58) (tgt := 59) S.1 S.2.1 dX5_count_1 (by rw [c_1_3]; decide) (by rw [c_1_3]; decide) (by rw [c_1_3]; rfl) (by decide) ?_
    refine lv_aload_n S.1 S.2.1 dX5_count_59 rfl (lv_at hl 0 rfl) ?_
    refine M_get S hin hK hG 2 (by decide) (by decide +kernel) rfl dX5_count_60 ?_
    exact r_iret S hr hlocks hG () rfl hf rfl dX5_count_63
  have hf := ite_n c_1_3 hf
  refine (Decidable.em (x1 = 4)).elim (fun c_1_4 => ?_) (fun c_1_4 => ?_)
  · have hf := ite_p c_1_4 hf
    refine lv_tableIn (off := 63) (tgt := 64) S.1 S.2.1 dX5_count_1 (by rw [c_1_4]; decide) (by rw [c_1_4]; decide) (by rw [c_1_4]; rfl) (by decide) ?_
    refine lv_aload_n S.1 S.2.1 dX5_count_64 rfl (lv_at hl 0 rfl) ?_
    refine M_get S hin hK hG 17 (by decide) (by decide +kernel) rfl dX5_count_65 ?_
    exact r_iret S hr hlocks hG () rfl hf rfl dX5_count_68
  have hf := ite_n c_1_4 hf
  refine (Decidable.em (x1 = 5)).elim (fun c_1_5 => ?_) (fun c_1_5 => ?_)
  · have hf := ite_p c_1_5 hf
    refine lv_tableIn (off := 68) (tgt := 69) S.1 S.2.1 dX5_count_1 (by rw [c_1_5]; decide) (by rw [c_1_5]; decide) (by rw [c_1_5]; rfl) (by decide) ?_
    refine lv_aload_n S.1 S.2.1 dX5_count_69 rfl (lv_at hl 0 rfl) ?_
    refine M_get S hin hK hG 22 (by decide) (by decide +kernel) rfl dX5_count_70 ?_
    exact r_iret S hr hlocks hG () rfl hf rfl dX5_count_73
  have hf := ite_n c_1_5 hf
  refine (Decidable.em (x1 = 6)).elim (fun c_1_6 => ?_) (fun c_1_6 => ?_)
  · have hf := ite_p c_1_6 hf
    refine lv_tableIn (off := 73) (tgt := 74) S.1 S.2.1 dX5_count_1 (by rw [c_1_6]; decide) (by rw [c_1_6]; decide) (by rw [c_1_6]; rfl) (by decide) ?_
    refine lv_aload_n S.1 S.2.1 dX5_count_74 rfl (lv_at hl 0 rfl) ?_
    refine M_get S hin hK hG 23 (by decide) (by decide +kernel) rfl dX5_count_75 ?_
    exact r_iret S hr hlocks hG () rfl hf rfl dX5_count_78
  have hf := ite_n c_1_6 hf
  refine lv_tableOut (tgt := 79) S.1 S.2.1 dX5_count_1 (by have h0 := sw_ne (z := 0) rfl c_1_0; have h1 := sw_ne (z := 1) rfl c_1_1; have h2 := sw_ne (z := 2) rfl c_1_2; have h3 := sw_ne (z := 3) rfl c_1_3; have h4 := sw_ne (z := 4) rfl c_1_4; have h5 := sw_ne (z := 5) rfl c_1_5; have h6 := sw_ne (z := 6) rfl c_1_6; omega) (by decide) ?_
  refine lv_bipush (v := (-3)) S.1 S.2.1 dX5_count_79 (by decide) ?_
  exact r_iret S hr hlocks hG () rfl hf rfl dX5_count_81
theorem k_X5_count (l : Launch) (D : va_G) (cI : ClassId) (ad : Nat → Nat) (σ : Mem) (x1 : Int32) : CMi l yX5_count wsX5_count ({ frames := 0, cells := 0, slots := 0, locals := 0 } : Room) D vwCl [(cI, .int)] (RW ad cI σ) [.ref (ad 0), .int x1] (fun (r : Int32) (_ : Unit) => r = (f_X5_count σ x1)) (fun _ => RW ad cI σ) :=
  r_met (by decide) rfl (Nat.le_of_ble_eq_true rfl) (fun p e s m args below meth c ls S hr hlocks _ hK hA hG hl => b_X5_count_0 S hr hlocks hK hA σ x1 rfl _ _ hG ls hl)
end
section
theorem in_X5_areKnown : ∀ w ∈ wsX50, w ∈ wsX5_areKnown := by decide +kernel
def f_X5_areKnown (σ : Mem) (x1 : Int32) (x2 : Int32) (x3 : Int32) (x4 : Int32) : Bool :=
  (if x1 = 0 then
  (f_X5_isTank x2)
  else
  (if x1 = 1 then
  (if (bI (f_X5_isTank x2)) = 0 then
  false
  else
  (if (bI (f_X5_isTank x3)) = 0 then
  false
  else
  true))
  else
  (if x1 = 2 then
  (if (bI (f_X5_isRule σ x2)) = 0 then
  false
  else
  (if (bI (f_X5_isActOrNone σ x3)) = 0 then
  false
  else
  (if (bI (f_X5_isActOrNone σ x4)) = 0 then
  false
  else
  true)))
  else
  (if x1 = 3 then
  (if (bI (f_X5_isAct σ x2)) = 0 then
  false
  else
  (if (bI (f_X5_isAct σ x3)) = 0 then
  false
  else
  true))
  else
  (if x1 = 4 then
  (f_X5_isAct σ x2)
  else
  (if x1 = 5 then
  (f_X5_isAct σ x2)
  else
  (if x1 = 6 then
  (if (bI (f_X5_isAct σ x2)) = 0 then
  false
  else
  (if (bI (f_X5_isAct σ x3)) = 0 then
  false
  else
  true))
  else
  (if x1 = 7 then
  true
  else
  (if x1 = 8 then
  (if (bI (f_X5_isSensor x2)) = 0 then
  false
  else
  (if (bI (f_X5_isTank x3)) = 0 then
  false
  else
  true))
  else
  true)))))))))
set_option maxRecDepth 100000 in
set_option maxHeartbeats 4000000 in
theorem b_X5_areKnown_0 {p : Program} {l : Launch} {e : Env} {s : State} {m : MethodId} {args : Array Value} {below : List Frame} {meth : Method} {c : Code} {D : va_G} {cI : ClassId} {ad : Nat → Nat} {w0 : va_W} {X : Bool} (S : CallFix p m c cX5_areKnown 5 s args wsX5_areKnown RX5) (hr : meth.sig.returnType = (some .boolean)) (hlocks : meth.locks = false) (hK : va_K D vwCl [(cI, .int)] s) (hA : ∀ q, s.heap.size ≤ q → va_A w0 s.heap.size q) (σ : Mem) (x1 : Int32) (x2 : Int32) (x3 : Int32) (x4 : Int32) (hf : f_X5_areKnown σ x1 x2 x3 x4 = X) (H : Heap) (locs : List Loc) (hG : wI D vwCl (va_A w0 s.heap.size) s.heap H locs (RW ad cI σ)) (ls : Array Slot) (hl : lv_has ls 5 [(0, .ref (ad 0)), (1, .int x1), (2, .int x2), (3, .int x3), (4, .int x4)]) : W p l e ({ frames := 3, cells := 0, slots := 0, locals := 64 } : Room) s m args below meth c H locs 0 0 (MQ below (va_Qi (fun (r : Int32) (_ : Unit) => r = bI X) (fun u t => wPost D vwCl w0 s.heap.size ((fun _ => RW ad cI σ) u) t) (va_A w0 s.heap.size)) args s 0 0 (va_A w0 s.heap.size)) (F0 m 0 ls []) := by
  have hin := in_X5_areKnown
  unfold f_X5_areKnown at hf
  refine lv_iload_n S.1 S.2.1 dX5_areKnown_0 rfl (lv_at hl 1 rfl) ?_
  refine (Decidable.em (x1 = 0)).elim (fun c_1_0 => ?_) (fun c_1_0 => ?_)
  · have hf := ite_p c_1_0 hf
    refine lv_tableIn (off := 51) (tgt := 52) S.1 S.2.1 dX5_areKnown_1 (by rw [c_1_0]; decide) (by rw [c_1_0]; decide) (by rw [c_1_0]; rfl) (by decide) ?_
    refine lv_iload_n S.1 S.2.1 dX5_areKnown_52 rfl (lv_at hl 2 rfl) ?_
    refine r_callSi S hK hA hG (k_X5_isTank l _ _ _ _ _) (cwS 1 S.2.2.2.2 gX5_areKnown_X5_isTank rfl rfl rfl (by decide +kernel) ⟨Nat.le_of_ble_eq_true rfl, Nat.le_of_ble_eq_true rfl⟩) rfl hl.1 rfl (Nat.le_of_ble_eq_true rfl) dX5_areKnown_53 ⟨Nat.le_of_ble_eq_true rfl, Nat.le_of_ble_eq_true rfl⟩ (fun r53 _ H locs hw hG => ?_)
    obtain rfl := hw
    exact r_iret S hr hlocks hG () rfl (congrArg bI hf) (bI_nar (f_X5_isTank x2)) dX5_areKnown_56
  have hf := ite_n c_1_0 hf
  refine (Decidable.em (x1 = 1)).elim (fun c_1_1 => ?_) (fun c_1_1 => ?_)
  · have hf := ite_p c_1_1 hf
    refine lv_tableIn (off := 56) (tgt := 57) S.1 S.2.1 dX5_areKnown_1 (by rw [c_1_1]; decide) (by rw [c_1_1]; decide) (by rw [c_1_1]; rfl) (by decide) ?_
    refine lv_iload_n S.1 S.2.1 dX5_areKnown_57 rfl (lv_at hl 2 rfl) ?_
    refine r_callSi S hK hA hG (k_X5_isTank l _ _ _ _ _) (cwS 1 S.2.2.2.2 gX5_areKnown_X5_isTank rfl rfl rfl (by decide +kernel) ⟨Nat.le_of_ble_eq_true rfl, Nat.le_of_ble_eq_true rfl⟩) rfl hl.1 rfl (Nat.le_of_ble_eq_true rfl) dX5_areKnown_58 ⟨Nat.le_of_ble_eq_true rfl, Nat.le_of_ble_eq_true rfl⟩ (fun r58 _ H locs hw hG => ?_)
    obtain rfl := hw
    refine lv_if_eq (tgt := 75) S.1 S.2.1 dX5_areKnown_61 (by decide) (fun c_61 => ?_) (fun c_61 => ?_)
    · have hf := ite_p c_61 hf
      refine lv_iconst (v := 0) S.1 S.2.1 dX5_areKnown_75 (by decide) ?_
      exact r_iret S hr hlocks hG () rfl (congrArg bI hf) (bI_nar false) dX5_areKnown_76
    · have hf := ite_n c_61 hf
      refine lv_iload_n S.1 S.2.1 dX5_areKnown_64 rfl (lv_at hl 3 rfl) ?_
      refine r_callSi S hK hA hG (k_X5_isTank l _ _ _ _ _) (cwS 1 S.2.2.2.2 gX5_areKnown_X5_isTank rfl rfl rfl (by decide +kernel) ⟨Nat.le_of_ble_eq_true rfl, Nat.le_of_ble_eq_true rfl⟩) rfl hl.1 rfl (Nat.le_of_ble_eq_true rfl) dX5_areKnown_65 ⟨Nat.le_of_ble_eq_true rfl, Nat.le_of_ble_eq_true rfl⟩ (fun r65 _ H locs hw hG => ?_)
      obtain rfl := hw
      refine lv_if_eq (tgt := 75) S.1 S.2.1 dX5_areKnown_68 (by decide) (fun c_68 => ?_) (fun c_68 => ?_)
      · have hf := ite_p c_68 hf
        refine lv_iconst (v := 0) S.1 S.2.1 dX5_areKnown_75 (by decide) ?_
        exact r_iret S hr hlocks hG () rfl (congrArg bI hf) (bI_nar false) dX5_areKnown_76
      · have hf := ite_n c_68 hf
        refine lv_iconst (v := 1) S.1 S.2.1 dX5_areKnown_71 (by decide) ?_
        refine lv_goto (tgt := 76) S.1 S.2.1 dX5_areKnown_72 (by decide) ?_
        exact r_iret S hr hlocks hG () rfl (congrArg bI hf) (bI_nar true) dX5_areKnown_76
  have hf := ite_n c_1_1 hf
  refine (Decidable.em (x1 = 2)).elim (fun c_1_2 => ?_) (fun c_1_2 => ?_)
  · have hf := ite_p c_1_2 hf
    refine lv_tableIn (off := 76) (tgt := 77) S.1 S.2.1 dX5_areKnown_1 (by rw [c_1_2]; decide) (by rw [c_1_2]; decide) (by rw [c_1_2]; rfl) (by decide) ?_
    refine lv_aload_n S.1 S.2.1 dX5_areKnown_77 rfl (lv_at hl 0 rfl) ?_
    refine lv_iload_n S.1 S.2.1 dX5_areKnown_78 rfl (lv_at hl 2 rfl) ?_
    refine r_callVi S hK hA hG (k_X5_isRule l _ _ _ _ _) (cwV 1 S.2.2.2.2 gX5_areKnown_X5_isRule rfl rfl rfl (by decide +kernel) ⟨Nat.le_of_ble_eq_true rfl, Nat.le_of_ble_eq_true rfl⟩) (va_recv hK hG.1 (ci := 5) (q0 := 0) rfl rfl) rfl hl.1 rfl (Nat.le_of_ble_eq_true rfl) dX5_areKnown_79 ⟨Nat.le_of_ble_eq_true rfl, Nat.le_of_ble_eq_true rfl⟩ (fun r79 _ H locs hw hG => ?_)
    obtain rfl := hw
    refine lv_if_eq (tgt := 106) S.1 S.2.1 dX5_areKnown_82 (by decide) (fun c_82 => ?_) (fun c_82 => ?_)
    · have hf := ite_p c_82 hf
      refine lv_iconst (v := 0) S.1 S.2.1 dX5_areKnown_106 (by decide) ?_
      exact r_iret S hr hlocks hG () rfl (congrArg bI hf) (bI_nar false) dX5_areKnown_107
    · have hf := ite_n c_82 hf
      refine lv_aload_n S.1 S.2.1 dX5_areKnown_85 rfl (lv_at hl 0 rfl) ?_
      refine lv_iload_n S.1 S.2.1 dX5_areKnown_86 rfl (lv_at hl 3 rfl) ?_
      refine r_callVi S hK hA hG (k_X5_isActOrNone l _ _ _ _ _) (cwV 1 S.2.2.2.2 gX5_areKnown_X5_isActOrNone rfl rfl rfl (by decide +kernel) ⟨Nat.le_of_ble_eq_true rfl, Nat.le_of_ble_eq_true rfl⟩) (va_recv hK hG.1 (ci := 5) (q0 := 0) rfl rfl) rfl hl.1 rfl (Nat.le_of_ble_eq_true rfl) dX5_areKnown_87 ⟨Nat.le_of_ble_eq_true rfl, Nat.le_of_ble_eq_true rfl⟩ (fun r87 _ H locs hw hG => ?_)
      obtain rfl := hw
      refine lv_if_eq (tgt := 106) S.1 S.2.1 dX5_areKnown_90 (by decide) (fun c_90 => ?_) (fun c_90 => ?_)
      · have hf := ite_p c_90 hf
        refine lv_iconst (v := 0) S.1 S.2.1 dX5_areKnown_106 (by decide) ?_
        exact r_iret S hr hlocks hG () rfl (congrArg bI hf) (bI_nar false) dX5_areKnown_107
      · have hf := ite_n c_90 hf
        refine lv_aload_n S.1 S.2.1 dX5_areKnown_93 rfl (lv_at hl 0 rfl) ?_
        refine lv_iload S.1 S.2.1 dX5_areKnown_94 (lv_at hl 4 rfl) ?_
        refine r_callVi S hK hA hG (k_X5_isActOrNone l _ _ _ _ _) (cwV 1 S.2.2.2.2 gX5_areKnown_X5_isActOrNone rfl rfl rfl (by decide +kernel) ⟨Nat.le_of_ble_eq_true rfl, Nat.le_of_ble_eq_true rfl⟩) (va_recv hK hG.1 (ci := 5) (q0 := 0) rfl rfl) rfl hl.1 rfl (Nat.le_of_ble_eq_true rfl) dX5_areKnown_96 ⟨Nat.le_of_ble_eq_true rfl, Nat.le_of_ble_eq_true rfl⟩ (fun r96 _ H locs hw hG => ?_)
        obtain rfl := hw
        refine lv_if_eq (tgt := 106) S.1 S.2.1 dX5_areKnown_99 (by decide) (fun c_99 => ?_) (fun c_99 => ?_)
        · have hf := ite_p c_99 hf
          refine lv_iconst (v := 0) S.1 S.2.1 dX5_areKnown_106 (by decide) ?_
          exact r_iret S hr hlocks hG () rfl (congrArg bI hf) (bI_nar false) dX5_areKnown_107
        · have hf := ite_n c_99 hf
          refine lv_iconst (v := 1) S.1 S.2.1 dX5_areKnown_102 (by decide) ?_
          refine lv_goto (tgt := 107) S.1 S.2.1 dX5_areKnown_103 (by decide) ?_
          exact r_iret S hr hlocks hG () rfl (congrArg bI hf) (bI_nar true) dX5_areKnown_107
  have hf := ite_n c_1_2 hf
  refine (Decidable.em (x1 = 3)).elim (fun c_1_3 => ?_) (fun c_1_3 => ?_)
  · have hf := ite_p c_1_3 hf
    refine lv_tableIn (off := 107) (tgt := 108) S.1 S.2.1 dX5_areKnown_1 (by rw [c_1_3]; decide) (by rw [c_1_3]; decide) (by rw [c_1_3]; rfl) (by decide) ?_
    refine lv_aload_n S.1 S.2.1 dX5_areKnown_108 rfl (lv_at hl 0 rfl) ?_
    refine lv_iload_n S.1 S.2.1 dX5_areKnown_109 rfl (lv_at hl 2 rfl) ?_
    refine r_callVi S hK hA hG (k_X5_isAct l _ _ _ _ _) (cwV 1 S.2.2.2.2 gX5_areKnown_X5_isAct rfl rfl rfl (by decide +kernel) ⟨Nat.le_of_ble_eq_true rfl, Nat.le_of_ble_eq_true rfl⟩) (va_recv hK hG.1 (ci := 5) (q0 := 0) rfl rfl) rfl hl.1 rfl (Nat.le_of_ble_eq_true rfl) dX5_areKnown_110 ⟨Nat.le_of_ble_eq_true rfl, Nat.le_of_ble_eq_true rfl⟩ (fun r110 _ H locs hw hG => ?_)
    obtain rfl := hw
    refine lv_if_eq (tgt := 128) S.1 S.2.1 dX5_areKnown_113 (by decide) (fun c_113 => ?_) (fun c_113 => ?_)
    · have hf := ite_p c_113 hf
      refine lv_iconst (v := 0) S.1 S.2.1 dX5_areKnown_128 (by decide) ?_
      exact r_iret S hr hlocks hG () rfl (congrArg bI hf) (bI_nar false) dX5_areKnown_129
    · have hf := ite_n c_113 hf
      refine lv_aload_n S.1 S.2.1 dX5_areKnown_116 rfl (lv_at hl 0 rfl) ?_
      refine lv_iload_n S.1 S.2.1 dX5_areKnown_117 rfl (lv_at hl 3 rfl) ?_
      refine r_callVi S hK hA hG (k_X5_isAct l _ _ _ _ _) (cwV 1 S.2.2.2.2 gX5_areKnown_X5_isAct rfl rfl rfl (by decide +kernel) ⟨Nat.le_of_ble_eq_true rfl, Nat.le_of_ble_eq_true rfl⟩) (va_recv hK hG.1 (ci := 5) (q0 := 0) rfl rfl) rfl hl.1 rfl (Nat.le_of_ble_eq_true rfl) dX5_areKnown_118 ⟨Nat.le_of_ble_eq_true rfl, Nat.le_of_ble_eq_true rfl⟩ (fun r118 _ H locs hw hG => ?_)
      obtain rfl := hw
      refine lv_if_eq (tgt := 128) S.1 S.2.1 dX5_areKnown_121 (by decide) (fun c_121 => ?_) (fun c_121 => ?_)
      · have hf := ite_p c_121 hf
        refine lv_iconst (v := 0) S.1 S.2.1 dX5_areKnown_128 (by decide) ?_
        exact r_iret S hr hlocks hG () rfl (congrArg bI hf) (bI_nar false) dX5_areKnown_129
      · have hf := ite_n c_121 hf
        refine lv_iconst (v := 1) S.1 S.2.1 dX5_areKnown_124 (by decide) ?_
        refine lv_goto (tgt := 129) S.1 S.2.1 dX5_areKnown_125 (by decide) ?_
        exact r_iret S hr hlocks hG () rfl (congrArg bI hf) (bI_nar true) dX5_areKnown_129
  have hf := ite_n c_1_3 hf
  refine (Decidable.em (x1 = 4)).elim (fun c_1_4 => ?_) (fun c_1_4 => ?_)
  · have hf := ite_p c_1_4 hf
    refine lv_tableIn (off := 129) (tgt := 130) S.1 S.2.1 dX5_areKnown_1 (by rw [c_1_4]; decide) (by rw [c_1_4]; decide) (by rw [c_1_4]; rfl) (by decide) ?_
    refine lv_aload_n S.1 S.2.1 dX5_areKnown_130 rfl (lv_at hl 0 rfl) ?_
    refine lv_iload_n S.1 S.2.1 dX5_areKnown_131 rfl (lv_at hl 2 rfl) ?_
    refine r_callVi S hK hA hG (k_X5_isAct l _ _ _ _ _) (cwV 1 S.2.2.2.2 gX5_areKnown_X5_isAct rfl rfl rfl (by decide +kernel) ⟨Nat.le_of_ble_eq_true rfl, Nat.le_of_ble_eq_true rfl⟩) (va_recv hK hG.1 (ci := 5) (q0 := 0) rfl rfl) rfl hl.1 rfl (Nat.le_of_ble_eq_true rfl) dX5_areKnown_132 ⟨Nat.le_of_ble_eq_true rfl, Nat.le_of_ble_eq_true rfl⟩ (fun r132 _ H locs hw hG => ?_)
    obtain rfl := hw
    exact r_iret S hr hlocks hG () rfl (congrArg bI hf) (bI_nar (f_X5_isAct σ x2)) dX5_areKnown_135
  have hf := ite_n c_1_4 hf
  refine (Decidable.em (x1 = 5)).elim (fun c_1_5 => ?_) (fun c_1_5 => ?_)
  · have hf := ite_p c_1_5 hf
    refine lv_tableIn (off := 129) (tgt := 130) S.1 S.2.1 dX5_areKnown_1 (by rw [c_1_5]; decide) (by rw [c_1_5]; decide) (by rw [c_1_5]; rfl) (by decide) ?_
    refine lv_aload_n S.1 S.2.1 dX5_areKnown_130 rfl (lv_at hl 0 rfl) ?_
    refine lv_iload_n S.1 S.2.1 dX5_areKnown_131 rfl (lv_at hl 2 rfl) ?_
    refine r_callVi S hK hA hG (k_X5_isAct l _ _ _ _ _) (cwV 1 S.2.2.2.2 gX5_areKnown_X5_isAct rfl rfl rfl (by decide +kernel) ⟨Nat.le_of_ble_eq_true rfl, Nat.le_of_ble_eq_true rfl⟩) (va_recv hK hG.1 (ci := 5) (q0 := 0) rfl rfl) rfl hl.1 rfl (Nat.le_of_ble_eq_true rfl) dX5_areKnown_132 ⟨Nat.le_of_ble_eq_true rfl, Nat.le_of_ble_eq_true rfl⟩ (fun r132 _ H locs hw hG => ?_)
    obtain rfl := hw
    exact r_iret S hr hlocks hG () rfl (congrArg bI hf) (bI_nar (f_X5_isAct σ x2)) dX5_areKnown_135
  have hf := ite_n c_1_5 hf
  refine (Decidable.em (x1 = 6)).elim (fun c_1_6 => ?_) (fun c_1_6 => ?_)
  · have hf := ite_p c_1_6 hf
    refine lv_tableIn (off := 107) (tgt := 108) S.1 S.2.1 dX5_areKnown_1 (by rw [c_1_6]; decide) (by rw [c_1_6]; decide) (by rw [c_1_6]; rfl) (by decide) ?_
    refine lv_aload_n S.1 S.2.1 dX5_areKnown_108 rfl (lv_at hl 0 rfl) ?_
    refine lv_iload_n S.1 S.2.1 dX5_areKnown_109 rfl (lv_at hl 2 rfl) ?_
    refine r_callVi S hK hA hG (k_X5_isAct l _ _ _ _ _) (cwV 1 S.2.2.2.2 gX5_areKnown_X5_isAct rfl rfl rfl (by decide +kernel) ⟨Nat.le_of_ble_eq_true rfl, Nat.le_of_ble_eq_true rfl⟩) (va_recv hK hG.1 (ci := 5) (q0 := 0) rfl rfl) rfl hl.1 rfl (Nat.le_of_ble_eq_true rfl) dX5_areKnown_110 ⟨Nat.le_of_ble_eq_true rfl, Nat.le_of_ble_eq_true rfl⟩ (fun r110 _ H locs hw hG => ?_)
    obtain rfl := hw
    refine lv_if_eq (tgt := 128) S.1 S.2.1 dX5_areKnown_113 (by decide) (fun c_113 => ?_) (fun c_113 => ?_)
    · have hf := ite_p c_113 hf
      refine lv_iconst (v := 0) S.1 S.2.1 dX5_areKnown_128 (by decide) ?_
      exact r_iret S hr hlocks hG () rfl (congrArg bI hf) (bI_nar false) dX5_areKnown_129
    · have hf := ite_n c_113 hf
      refine lv_aload_n S.1 S.2.1 dX5_areKnown_116 rfl (lv_at hl 0 rfl) ?_
      refine lv_iload_n S.1 S.2.1 dX5_areKnown_117 rfl (lv_at hl 3 rfl) ?_
      refine r_callVi S hK hA hG (k_X5_isAct l _ _ _ _ _) (cwV 1 S.2.2.2.2 gX5_areKnown_X5_isAct rfl rfl rfl (by decide +kernel) ⟨Nat.le_of_ble_eq_true rfl, Nat.le_of_ble_eq_true rfl⟩) (va_recv hK hG.1 (ci := 5) (q0 := 0) rfl rfl) rfl hl.1 rfl (Nat.le_of_ble_eq_true rfl) dX5_areKnown_118 ⟨Nat.le_of_ble_eq_true rfl, Nat.le_of_ble_eq_true rfl⟩ (fun r118 _ H locs hw hG => ?_)
      obtain rfl := hw
      refine lv_if_eq (tgt := 128) S.1 S.2.1 dX5_areKnown_121 (by decide) (fun c_121 => ?_) (fun c_121 => ?_)
      · have hf := ite_p c_121 hf
        refine lv_iconst (v := 0) S.1 S.2.1 dX5_areKnown_128 (by decide) ?_
        exact r_iret S hr hlocks hG () rfl (congrArg bI hf) (bI_nar false) dX5_areKnown_129
      · have hf := ite_n c_121 hf
        refine lv_iconst (v := 1) S.1 S.2.1 dX5_areKnown_124 (by decide) ?_
        refine lv_goto (tgt := 129) S.1 S.2.1 dX5_areKnown_125 (by decide) ?_
        exact r_iret S hr hlocks hG () rfl (congrArg bI hf) (bI_nar true) dX5_areKnown_129
  have hf := ite_n c_1_6 hf
  refine (Decidable.em (x1 = 7)).elim (fun c_1_7 => ?_) (fun c_1_7 => ?_)
  · have hf := ite_p c_1_7 hf
    refine lv_tableIn (off := 155) (tgt := 156) S.1 S.2.1 dX5_areKnown_1 (by rw [c_1_7]; decide) (by rw [c_1_7]; decide) (by rw [c_1_7]; rfl) (by decide) ?_
    refine lv_iconst (v := 1) S.1 S.2.1 dX5_areKnown_156 (by decide) ?_
    exact r_iret S hr hlocks hG () rfl (congrArg bI hf) (bI_nar true) dX5_areKnown_157
  have hf := ite_n c_1_7 hf
  refine (Decidable.em (x1 = 8)).elim (fun c_1_8 => ?_) (fun c_1_8 => ?_)
  · have hf := ite_p c_1_8 hf
    refine lv_tableIn (off := 135) (tgt := 136) S.1 S.2.1 dX5_areKnown_1 (by rw [c_1_8]; decide) (by rw [c_1_8]; decide) (by rw [c_1_8]; rfl) (by decide) ?_
    refine lv_iload_n S.1 S.2.1 dX5_areKnown_136 rfl (lv_at hl 2 rfl) ?_
    refine r_callSi S hK hA hG (k_X5_isSensor l _ _ _ _ _) (cwS 1 S.2.2.2.2 gX5_areKnown_X5_isSensor rfl rfl rfl (by decide +kernel) ⟨Nat.le_of_ble_eq_true rfl, Nat.le_of_ble_eq_true rfl⟩) rfl hl.1 rfl (Nat.le_of_ble_eq_true rfl) dX5_areKnown_137 ⟨Nat.le_of_ble_eq_true rfl, Nat.le_of_ble_eq_true rfl⟩ (fun r137 _ H locs hw hG => ?_)
    obtain rfl := hw
    refine lv_if_eq (tgt := 154) S.1 S.2.1 dX5_areKnown_140 (by decide) (fun c_140 => ?_) (fun c_140 => ?_)
    · have hf := ite_p c_140 hf
      refine lv_iconst (v := 0) S.1 S.2.1 dX5_areKnown_154 (by decide) ?_
      exact r_iret S hr hlocks hG () rfl (congrArg bI hf) (bI_nar false) dX5_areKnown_155
    · have hf := ite_n c_140 hf
      refine lv_iload_n S.1 S.2.1 dX5_areKnown_143 rfl (lv_at hl 3 rfl) ?_
      refine r_callSi S hK hA hG (k_X5_isTank l _ _ _ _ _) (cwS 1 S.2.2.2.2 gX5_areKnown_X5_isTank rfl rfl rfl (by decide +kernel) ⟨Nat.le_of_ble_eq_true rfl, Nat.le_of_ble_eq_true rfl⟩) rfl hl.1 rfl (Nat.le_of_ble_eq_true rfl) dX5_areKnown_144 ⟨Nat.le_of_ble_eq_true rfl, Nat.le_of_ble_eq_true rfl⟩ (fun r144 _ H locs hw hG => ?_)
      obtain rfl := hw
      refine lv_if_eq (tgt := 154) S.1 S.2.1 dX5_areKnown_147 (by decide) (fun c_147 => ?_) (fun c_147 => ?_)
      · have hf := ite_p c_147 hf
        refine lv_iconst (v := 0) S.1 S.2.1 dX5_areKnown_154 (by decide) ?_
        exact r_iret S hr hlocks hG () rfl (congrArg bI hf) (bI_nar false) dX5_areKnown_155
      · have hf := ite_n c_147 hf
        refine lv_iconst (v := 1) S.1 S.2.1 dX5_areKnown_150 (by decide) ?_
        refine lv_goto (tgt := 155) S.1 S.2.1 dX5_areKnown_151 (by decide) ?_
        exact r_iret S hr hlocks hG () rfl (congrArg bI hf) (bI_nar true) dX5_areKnown_155
  have hf := ite_n c_1_8 hf
  refine lv_tableOut (tgt := 156) S.1 S.2.1 dX5_areKnown_1 (by have h0 := sw_ne (z := 0) rfl c_1_0; have h1 := sw_ne (z := 1) rfl c_1_1; have h2 := sw_ne (z := 2) rfl c_1_2; have h3 := sw_ne (z := 3) rfl c_1_3; have h4 := sw_ne (z := 4) rfl c_1_4; have h5 := sw_ne (z := 5) rfl c_1_5; have h6 := sw_ne (z := 6) rfl c_1_6; have h7 := sw_ne (z := 7) rfl c_1_7; have h8 := sw_ne (z := 8) rfl c_1_8; omega) (by decide) ?_
  refine lv_iconst (v := 1) S.1 S.2.1 dX5_areKnown_156 (by decide) ?_
  exact r_iret S hr hlocks hG () rfl (congrArg bI hf) (bI_nar true) dX5_areKnown_157
theorem k_X5_areKnown (l : Launch) (D : va_G) (cI : ClassId) (ad : Nat → Nat) (σ : Mem) (x1 : Int32) (x2 : Int32) (x3 : Int32) (x4 : Int32) : CMi l yX5_areKnown wsX5_areKnown ({ frames := 3, cells := 0, slots := 0, locals := 64 } : Room) D vwCl [(cI, .int)] (RW ad cI σ) [.ref (ad 0), .int x1, .int x2, .int x3, .int x4] (fun (r : Int32) (_ : Unit) => r = bI (f_X5_areKnown σ x1 x2 x3 x4)) (fun _ => RW ad cI σ) :=
  r_met (by decide) rfl (Nat.le_of_ble_eq_true rfl) (fun p e s m args below meth c ls S hr hlocks _ hK hA hG hl => b_X5_areKnown_0 S hr hlocks hK hA σ x1 x2 x3 x4 rfl _ _ hG ls hl)
theorem in_X5_rule : ∀ w ∈ wsX50, w ∈ wsX5_rule := by decide +kernel
def f_X5_rule_116 (σ : Mem) (x1 : Int32) (x2 : Int32) (x3 : Int32) (x4 : Int32) : Int32 × Mem :=
  (if (σ 0 3) = 40 then
  ((-4), σ)
  else
  bnd (mset σ 5 (σ 0 3).toNatClampNeg x1) fun σ1 =>
  bnd (mset σ1 6 (σ 0 3).toNatClampNeg x2) fun σ2 =>
  bnd (mset σ2 7 (σ 0 3).toNatClampNeg x3) fun σ3 =>
  bnd (mset σ3 8 (σ 0 3).toNatClampNeg x4) fun σ4 =>
  (if x1 = 2 then
  bnd (mset σ4 9 (σ 0 3).toNatClampNeg (σ4 1 x2.toNatClampNeg)) fun σ7 =>
  bnd (mset σ7 0 3 ((σ 0 3) + 1)) fun σ8 =>
  (((σ 0 3) + 1) - 1, σ8)
  else
  bnd (mset σ4 9 (σ 0 3).toNatClampNeg 0) fun σ5 =>
  bnd (mset σ5 0 3 ((σ 0 3) + 1)) fun σ6 =>
  (((σ 0 3) + 1) - 1, σ6)))
set_option maxRecDepth 100000 in
set_option maxHeartbeats 4000000 in
theorem b_X5_rule_116 {p : Program} {l : Launch} {e : Env} {s : State} {m : MethodId} {args : Array Value} {below : List Frame} {meth : Method} {c : Code} {D : va_G} {cI : ClassId} {ad : Nat → Nat} {w0 : va_W} {X : Int32 × Mem} (S : CallFix p m c cX5_rule 6 s args wsX5_rule RX5) (hr : meth.sig.returnType = (some .int)) (hlocks : meth.locks = false) (hK : va_K D vwCl [(cI, .int)] s) (hA : ∀ q, s.heap.size ≤ q → va_A w0 s.heap.size q) (σ : Mem) (x1 : Int32) (x2 : Int32) (x3 : Int32) (x4 : Int32) (hc : ∃ n : Nat, n ≤ 40 ∧ σ 0 3 = nI n) (hk : x1 = 2 → vp_in x2 8) (hf : f_X5_rule_116 σ x1 x2 x3 x4 = X) (H : Heap) (locs : List Loc) (hG : wI D vwCl (va_A w0 s.heap.size) s.heap H locs (RW ad cI σ)) (ls : Array Slot) (hl : lv_has ls 6 [(0, .ref (ad 0)), (1, .int x1), (2, .int x2), (3, .int x3), (4, .int x4)]) : W p l e ({ frames := 2, cells := 0, slots := 0, locals := 43 } : Room) s m args below meth c H locs 0 0 (MQ below (va_Qi (fun (r : Int32) (u : Mem) => (r, u) = X) (fun u t => wPost D vwCl w0 s.heap.size ((fun u => RW ad cI u) u) t) (va_A w0 s.heap.size)) args s 0 0 (va_A w0 s.heap.size)) (F0 m 116 ls []) := by
  have hin := in_X5_rule
  unfold f_X5_rule_116 at hf
  refine lv_aload_n S.1 S.2.1 dX5_rule_116 rfl (lv_at hl 0 rfl) ?_
  refine M_get S hin hK hG 3 (by decide) (by decide +kernel) rfl dX5_rule_117 ?_
  refine lv_bipush (v := 40) S.1 S.2.1 dX5_rule_120 (by decide) ?_
  refine lv_icmp_ne (tgt := 128) S.1 S.2.1 dX5_rule_122 (by decide) (fun c_122 => ?_) (fun c_122 => ?_)
  · have hf := ite_n c_122 hf
    refine lv_aload_n S.1 S.2.1 dX5_rule_128 rfl (lv_at hl 0 rfl) ?_
    refine M_get S hin hK hG 4 (by decide) (by decide +kernel) rfl dX5_rule_129 ?_
    refine lv_aload_n S.1 S.2.1 dX5_rule_132 rfl (lv_at hl 0 rfl) ?_
    refine M_get S hin hK hG 3 (by decide) (by decide +kernel) rfl dX5_rule_133 ?_
    refine lv_iload_n S.1 S.2.1 dX5_rule_136 rfl (lv_at hl 1 rfl) ?_
    refine M_ast S hK hG 5 3 40 rfl (ri_cnt hc c_122) (RWs_5 _ _ _ _ _) dX5_rule_137 (fun σ1 H locs e_σ1 hG => ?_)
    have hf := bnd_p e_σ1 hf
    refine lv_aload_n S.1 S.2.1 dX5_rule_138 rfl (lv_at hl 0 rfl) ?_
    refine M_get S hin hK hG 5 (by decide) (by decide +kernel) rfl dX5_rule_139 ?_
    refine lv_aload_n S.1 S.2.1 dX5_rule_142 rfl (lv_at hl 0 rfl) ?_
    refine M_get S hin hK hG 3 (v := .int (σ 0 3)) (by decide) (by decide +kernel) (by rw [e_σ1]; rfl) dX5_rule_143 ?_
    refine lv_iload_n S.1 S.2.1 dX5_rule_146 rfl (lv_at hl 2 rfl) ?_
    refine M_ast S hK hG 6 4 40 rfl (ri_cnt hc c_122) (RWs_6 _ _ _ _ _) dX5_rule_147 (fun σ2 H locs e_σ2 hG => ?_)
    have hf := bnd_p e_σ2 hf
    refine lv_aload_n S.1 S.2.1 dX5_rule_148 rfl (lv_at hl 0 rfl) ?_
    refine M_get S hin hK hG 6 (by decide) (by decide +kernel) rfl dX5_rule_149 ?_
    refine lv_aload_n S.1 S.2.1 dX5_rule_152 rfl (lv_at hl 0 rfl) ?_
    refine M_get S hin hK hG 3 (v := .int (σ 0 3)) (by decide) (by decide +kernel) (by rw [e_σ2, e_σ1]; rfl) dX5_rule_153 ?_
    refine lv_iload_n S.1 S.2.1 dX5_rule_156 rfl (lv_at hl 3 rfl) ?_
    refine M_ast S hK hG 7 5 40 rfl (ri_cnt hc c_122) (RWs_7 _ _ _ _ _) dX5_rule_157 (fun σ3 H locs e_σ3 hG => ?_)
    have hf := bnd_p e_σ3 hf
    refine lv_aload_n S.1 S.2.1 dX5_rule_158 rfl (lv_at hl 0 rfl) ?_
    refine M_get S hin hK hG 7 (by decide) (by decide +kernel) rfl dX5_rule_159 ?_
    refine lv_aload_n S.1 S.2.1 dX5_rule_162 rfl (lv_at hl 0 rfl) ?_
    refine M_get S hin hK hG 3 (v := .int (σ 0 3)) (by decide) (by decide +kernel) (by rw [e_σ3, e_σ2, e_σ1]; rfl) dX5_rule_163 ?_
    refine lv_iload S.1 S.2.1 dX5_rule_166 (lv_at hl 4 rfl) ?_
    refine M_ast S hK hG 8 6 40 rfl (ri_cnt hc c_122) (RWs_8 _ _ _ _ _) dX5_rule_168 (fun σ4 H locs e_σ4 hG => ?_)
    have hf := bnd_p e_σ4 hf
    refine lv_aload_n S.1 S.2.1 dX5_rule_169 rfl (lv_at hl 0 rfl) ?_
    refine M_get S hin hK hG 8 (by decide) (by decide +kernel) rfl dX5_rule_170 ?_
    refine lv_aload_n S.1 S.2.1 dX5_rule_173 rfl (lv_at hl 0 rfl) ?_
    refine M_get S hin hK hG 3 (v := .int (σ 0 3)) (by decide) (by decide +kernel) (by rw [e_σ4, e_σ3, e_σ2, e_σ1]; rfl) dX5_rule_174 ?_
    refine lv_iload_n S.1 S.2.1 dX5_rule_177 rfl (lv_at hl 1 rfl) ?_
    refine lv_iconst (v := 2) S.1 S.2.1 dX5_rule_178 (by decide) ?_
    refine lv_icmp_ne (tgt := 191) S.1 S.2.1 dX5_rule_179 (by decide) (fun c_179 => ?_) (fun c_179 => ?_)
    · have hf := ite_n c_179 hf
      refine lv_iconst (v := 0) S.1 S.2.1 dX5_rule_191 (by decide) ?_
      refine M_ast S hK hG 9 7 40 rfl (ri_cnt hc c_122) (RWs_9 _ _ _ _ _) dX5_rule_192 (fun σ5 H locs e_σ5 hG => ?_)
      have hf := bnd_p e_σ5 hf
      refine lv_aload_n S.1 S.2.1 dX5_rule_193 rfl (lv_at hl 0 rfl) ?_
      refine lv_dup S.1 S.2.1 dX5_rule_194 rfl ?_
      refine M_get S hin hK hG 3 (v := .int (σ 0 3)) (by decide) (by decide +kernel) (by rw [e_σ5, e_σ4, e_σ3, e_σ2, e_σ1]; rfl) dX5_rule_195 ?_
      refine lv_iconst (v := 1) S.1 S.2.1 dX5_rule_198 (by decide) ?_
      refine lv_iadd S.1 S.2.1 dX5_rule_199 ?_
      refine M_put S hin hK hG 3 (by decide) (by decide +kernel) rfl rfl rfl (RWp_3 _ _ _ _) dX5_rule_200 (fun σ6 H locs e_σ6 hG => ?_)
      have hf := bnd_p e_σ6 hf
      refine lv_aload_n S.1 S.2.1 dX5_rule_203 rfl (lv_at hl 0 rfl) ?_
      refine M_get S hin hK hG 3 (v := .int ((σ 0 3) + 1)) (by decide) (by decide +kernel) (by rw [e_σ6]; rfl) dX5_rule_204 ?_
      refine lv_iconst (v := 1) S.1 S.2.1 dX5_rule_207 (by decide) ?_
      refine lv_isub S.1 S.2.1 dX5_rule_208 ?_
      exact r_iret S hr hlocks hG _ rfl hf rfl dX5_rule_209
    · have hf := ite_p c_179 hf
      refine lv_aload_n S.1 S.2.1 dX5_rule_182 rfl (lv_at hl 0 rfl) ?_
      refine M_get S hin hK hG 0 (by decide) (by decide +kernel) rfl dX5_rule_183 ?_
      refine lv_iload_n S.1 S.2.1 dX5_rule_186 rfl (lv_at hl 2 rfl) ?_
      refine r_iald S hK hG 1 0 rfl rfl (hk c_179) dX5_rule_187 ?_
      refine lv_goto (tgt := 192) S.1 S.2.1 dX5_rule_188 (by decide) ?_
      refine M_ast S hK hG 9 7 40 rfl (ri_cnt hc c_122) (RWs_9 _ _ _ _ _) dX5_rule_192 (fun σ7 H locs e_σ7 hG => ?_)
      have hf := bnd_p e_σ7 hf
      refine lv_aload_n S.1 S.2.1 dX5_rule_193 rfl (lv_at hl 0 rfl) ?_
      refine lv_dup S.1 S.2.1 dX5_rule_194 rfl ?_
      refine M_get S hin hK hG 3 (v := .int (σ 0 3)) (by decide) (by decide +kernel) (by rw [e_σ7, e_σ4, e_σ3, e_σ2, e_σ1]; rfl) dX5_rule_195 ?_
      refine lv_iconst (v := 1) S.1 S.2.1 dX5_rule_198 (by decide) ?_
      refine lv_iadd S.1 S.2.1 dX5_rule_199 ?_
      refine M_put S hin hK hG 3 (by decide) (by decide +kernel) rfl rfl rfl (RWp_3 _ _ _ _) dX5_rule_200 (fun σ8 H locs e_σ8 hG => ?_)
      have hf := bnd_p e_σ8 hf
      refine lv_aload_n S.1 S.2.1 dX5_rule_203 rfl (lv_at hl 0 rfl) ?_
      refine M_get S hin hK hG 3 (v := .int ((σ 0 3) + 1)) (by decide) (by decide +kernel) (by rw [e_σ8]; rfl) dX5_rule_204 ?_
      refine lv_iconst (v := 1) S.1 S.2.1 dX5_rule_207 (by decide) ?_
      refine lv_isub S.1 S.2.1 dX5_rule_208 ?_
      exact r_iret S hr hlocks hG _ rfl hf rfl dX5_rule_209
  · have hf := ite_p c_122 hf
    refine lv_bipush (v := (-4)) S.1 S.2.1 dX5_rule_125 (by decide) ?_
    exact r_iret S hr hlocks hG _ rfl hf rfl dX5_rule_127
def f_X5_rule_103 (σ : Mem) (x1 : Int32) (x2 : Int32) (x3 : Int32) (x4 : Int32) : Int32 × Mem :=
  (if x1 = 1 then
  (if 0 ≤ x4 then
  f_X5_rule_116 σ x1 x2 x3 x4
  else
  ((-3), σ))
  else
  f_X5_rule_116 σ x1 x2 x3 x4)
set_option maxRecDepth 100000 in
set_option maxHeartbeats 4000000 in
theorem b_X5_rule_103 {p : Program} {l : Launch} {e : Env} {s : State} {m : MethodId} {args : Array Value} {below : List Frame} {meth : Method} {c : Code} {D : va_G} {cI : ClassId} {ad : Nat → Nat} {w0 : va_W} {X : Int32 × Mem} (S : CallFix p m c cX5_rule 6 s args wsX5_rule RX5) (hr : meth.sig.returnType = (some .int)) (hlocks : meth.locks = false) (hK : va_K D vwCl [(cI, .int)] s) (hA : ∀ q, s.heap.size ≤ q → va_A w0 s.heap.size q) (σ : Mem) (x1 : Int32) (x2 : Int32) (x3 : Int32) (x4 : Int32) (hc : ∃ n : Nat, n ≤ 40 ∧ σ 0 3 = nI n) (hk : x1 = 2 → vp_in x2 8) (hf : f_X5_rule_103 σ x1 x2 x3 x4 = X) (H : Heap) (locs : List Loc) (hG : wI D vwCl (va_A w0 s.heap.size) s.heap H locs (RW ad cI σ)) (ls : Array Slot) (hl : lv_has ls 6 [(0, .ref (ad 0)), (1, .int x1), (2, .int x2), (3, .int x3), (4, .int x4)]) : W p l e ({ frames := 2, cells := 0, slots := 0, locals := 43 } : Room) s m args below meth c H locs 0 0 (MQ below (va_Qi (fun (r : Int32) (u : Mem) => (r, u) = X) (fun u t => wPost D vwCl w0 s.heap.size ((fun u => RW ad cI u) u) t) (va_A w0 s.heap.size)) args s 0 0 (va_A w0 s.heap.size)) (F0 m 103 ls []) := by
  have hin := in_X5_rule
  unfold f_X5_rule_103 at hf
  refine lv_iload_n S.1 S.2.1 dX5_rule_103 rfl (lv_at hl 1 rfl) ?_
  refine lv_iconst (v := 1) S.1 S.2.1 dX5_rule_104 (by decide) ?_
  refine lv_icmp_ne (tgt := 116) S.1 S.2.1 dX5_rule_105 (by decide) (fun c_105 => ?_) (fun c_105 => ?_)
  · have hf := ite_n c_105 hf
    exact b_X5_rule_116 S hr hlocks hK hA σ x1 x2 x3 x4 (hc) (hk) hf H locs hG ls (lv_sub hl [0, 1, 2, 3, 4] rfl)
  · have hf := ite_p c_105 hf
    refine lv_iload S.1 S.2.1 dX5_rule_108 (lv_at hl 4 rfl) ?_
    refine lv_if_ge (tgt := 116) S.1 S.2.1 dX5_rule_110 (by decide) (fun c_110 => ?_) (fun c_110 => ?_)
    · have hf := ite_p c_110 hf
      exact b_X5_rule_116 S hr hlocks hK hA σ x1 x2 x3 x4 (hc) (hk) hf H locs hG ls (lv_sub hl [0, 1, 2, 3, 4] rfl)
    · have hf := ite_n c_110 hf
      refine lv_bipush (v := (-3)) S.1 S.2.1 dX5_rule_113 (by decide) ?_
      exact r_iret S hr hlocks hG _ rfl hf rfl dX5_rule_115
def f_X5_rule_87 (σ : Mem) (x1 : Int32) (x2 : Int32) (x3 : Int32) (x4 : Int32) : Int32 × Mem :=
  (if x1 = 8 then
  (if (bI (f_X5_in x3 1 100)) = 0 then
  ((-3), σ)
  else
  f_X5_rule_103 σ x1 x2 x3 x4)
  else
  f_X5_rule_103 σ x1 x2 x3 x4)
set_option maxRecDepth 100000 in
set_option maxHeartbeats 4000000 in
theorem b_X5_rule_87 {p : Program} {l : Launch} {e : Env} {s : State} {m : MethodId} {args : Array Value} {below : List Frame} {meth : Method} {c : Code} {D : va_G} {cI : ClassId} {ad : Nat → Nat} {w0 : va_W} {X : Int32 × Mem} (S : CallFix p m c cX5_rule 6 s args wsX5_rule RX5) (hr : meth.sig.returnType = (some .int)) (hlocks : meth.locks = false) (hK : va_K D vwCl [(cI, .int)] s) (hA : ∀ q, s.heap.size ≤ q → va_A w0 s.heap.size q) (σ : Mem) (x1 : Int32) (x2 : Int32) (x3 : Int32) (x4 : Int32) (hc : ∃ n : Nat, n ≤ 40 ∧ σ 0 3 = nI n) (hk : x1 = 2 → vp_in x2 8) (hf : f_X5_rule_87 σ x1 x2 x3 x4 = X) (H : Heap) (locs : List Loc) (hG : wI D vwCl (va_A w0 s.heap.size) s.heap H locs (RW ad cI σ)) (ls : Array Slot) (hl : lv_has ls 6 [(0, .ref (ad 0)), (1, .int x1), (2, .int x2), (3, .int x3), (4, .int x4)]) : W p l e ({ frames := 2, cells := 0, slots := 0, locals := 43 } : Room) s m args below meth c H locs 0 0 (MQ below (va_Qi (fun (r : Int32) (u : Mem) => (r, u) = X) (fun u t => wPost D vwCl w0 s.heap.size ((fun u => RW ad cI u) u) t) (va_A w0 s.heap.size)) args s 0 0 (va_A w0 s.heap.size)) (F0 m 87 ls []) := by
  have hin := in_X5_rule
  unfold f_X5_rule_87 at hf
  refine lv_iload_n S.1 S.2.1 dX5_rule_87 rfl (lv_at hl 1 rfl) ?_
  refine lv_bipush (v := 8) S.1 S.2.1 dX5_rule_88 (by decide) ?_
  refine lv_icmp_ne (tgt := 103) S.1 S.2.1 dX5_rule_90 (by decide) (fun c_90 => ?_) (fun c_90 => ?_)
  · have hf := ite_n c_90 hf
    exact b_X5_rule_103 S hr hlocks hK hA σ x1 x2 x3 x4 (hc) (hk) hf H locs hG ls (lv_sub hl [0, 1, 2, 3, 4] rfl)
  · have hf := ite_p c_90 hf
    refine lv_iload_n S.1 S.2.1 dX5_rule_93 rfl (lv_at hl 3 rfl) ?_
    refine lv_iconst (v := 1) S.1 S.2.1 dX5_rule_94 (by decide) ?_
    refine lv_bipush (v := 100) S.1 S.2.1 dX5_rule_95 (by decide) ?_
    refine r_callSi S hK hA hG (k_X5_in l _ _ _ _ _ _ _) (cwS 3 S.2.2.2.2 gX5_rule_X5_in rfl rfl rfl (by decide +kernel) ⟨Nat.le_of_ble_eq_true rfl, Nat.le_of_ble_eq_true rfl⟩) rfl hl.1 rfl (Nat.le_of_ble_eq_true rfl) dX5_rule_97 ⟨Nat.le_of_ble_eq_true rfl, Nat.le_of_ble_eq_true rfl⟩ (fun r97 _ H locs hw hG => ?_)
    obtain rfl := hw
    refine lv_if_eq (tgt := 113) S.1 S.2.1 dX5_rule_100 (by decide) (fun c_100 => ?_) (fun c_100 => ?_)
    · have hf := ite_p c_100 hf
      refine lv_bipush (v := (-3)) S.1 S.2.1 dX5_rule_113 (by decide) ?_
      exact r_iret S hr hlocks hG _ rfl hf rfl dX5_rule_115
    · have hf := ite_n c_100 hf
      exact b_X5_rule_103 S hr hlocks hK hA σ x1 x2 x3 x4 (hc) (hk) hf H locs hG ls (lv_sub hl [0, 1, 2, 3, 4] rfl)
def f_X5_rule (σ : Mem) (x1 : Int32) (x2 : Int32) (x3 : Int32) (x4 : Int32) : Int32 × Mem :=
  (if (bI (f_X5_in x1 0 9)) = 0 then
  ((-3), σ)
  else
  (if 5 ≤ x1 then
  (if (bI (f_X5_isRule σ x2)) = 0 then
  ((-2), σ)
  else
  (if x1 = 5 then
  f_X5_rule_87 σ x1 x2 x3 x4
  else
  (if x1 = 8 then
  f_X5_rule_87 σ x1 x2 x3 x4
  else
  (if (bI (f_X5_isRule σ x3)) = 0 then
  ((-2), σ)
  else
  f_X5_rule_87 σ x1 x2 x3 x4))))
  else
  (if (bI (f_X5_isSensor x2)) = 0 then
  ((-2), σ)
  else
  (if x1 = 3 then
  (if (bI (f_X5_isSensor x3)) = 0 then
  ((-2), σ)
  else
  f_X5_rule_87 σ x1 x2 x3 x4)
  else
  f_X5_rule_87 σ x1 x2 x3 x4))))
set_option maxRecDepth 100000 in
set_option maxHeartbeats 4000000 in
theorem b_X5_rule_0 {p : Program} {l : Launch} {e : Env} {s : State} {m : MethodId} {args : Array Value} {below : List Frame} {meth : Method} {c : Code} {D : va_G} {cI : ClassId} {ad : Nat → Nat} {w0 : va_W} {X : Int32 × Mem} (S : CallFix p m c cX5_rule 6 s args wsX5_rule RX5) (hr : meth.sig.returnType = (some .int)) (hlocks : meth.locks = false) (hK : va_K D vwCl [(cI, .int)] s) (hA : ∀ q, s.heap.size ≤ q → va_A w0 s.heap.size q) (σ : Mem) (x1 : Int32) (x2 : Int32) (x3 : Int32) (x4 : Int32) (hc : ∃ n : Nat, n ≤ 40 ∧ σ 0 3 = nI n) (hf : f_X5_rule σ x1 x2 x3 x4 = X) (H : Heap) (locs : List Loc) (hG : wI D vwCl (va_A w0 s.heap.size) s.heap H locs (RW ad cI σ)) (ls : Array Slot) (hl : lv_has ls 6 [(0, .ref (ad 0)), (1, .int x1), (2, .int x2), (3, .int x3), (4, .int x4)]) : W p l e ({ frames := 2, cells := 0, slots := 0, locals := 43 } : Room) s m args below meth c H locs 0 0 (MQ below (va_Qi (fun (r : Int32) (u : Mem) => (r, u) = X) (fun u t => wPost D vwCl w0 s.heap.size ((fun u => RW ad cI u) u) t) (va_A w0 s.heap.size)) args s 0 0 (va_A w0 s.heap.size)) (F0 m 0 ls []) := by
  have hin := in_X5_rule
  unfold f_X5_rule at hf
  refine lv_iload_n S.1 S.2.1 dX5_rule_0 rfl (lv_at hl 1 rfl) ?_
  refine lv_iconst (v := 0) S.1 S.2.1 dX5_rule_1 (by decide) ?_
  refine lv_bipush (v := 9) S.1 S.2.1 dX5_rule_2 (by decide) ?_
  refine r_callSi S hK hA hG (k_X5_in l _ _ _ _ _ _ _) (cwS 3 S.2.2.2.2 gX5_rule_X5_in rfl rfl rfl (by decide +kernel) ⟨Nat.le_of_ble_eq_true rfl, Nat.le_of_ble_eq_true rfl⟩) rfl hl.1 rfl (Nat.le_of_ble_eq_true rfl) dX5_rule_4 ⟨Nat.le_of_ble_eq_true rfl, Nat.le_of_ble_eq_true rfl⟩ (fun r4 _ H locs hw hG => ?_)
  obtain rfl := hw
  refine lv_if_ne (tgt := 13) S.1 S.2.1 dX5_rule_7 (by decide) (fun c_7 => ?_) (fun c_7 => ?_)
  · have hf := ite_n c_7 hf
    refine lv_iload_n S.1 S.2.1 dX5_rule_13 rfl (lv_at hl 1 rfl) ?_
    refine lv_iconst (v := 5) S.1 S.2.1 dX5_rule_14 (by decide) ?_
    refine lv_icmp_ge (tgt := 45) S.1 S.2.1 dX5_rule_15 (by decide) (fun c_15 => ?_) (fun c_15 => ?_)
    · have hf := ite_p c_15 hf
      refine lv_aload_n S.1 S.2.1 dX5_rule_45 rfl (lv_at hl 0 rfl) ?_
      refine lv_iload_n S.1 S.2.1 dX5_rule_46 rfl (lv_at hl 2 rfl) ?_
      refine r_callVi S hK hA hG (k_X5_isRule l _ _ _ _ _) (cwV 1 S.2.2.2.2 gX5_rule_X5_isRule rfl rfl rfl (by decide +kernel) ⟨Nat.le_of_ble_eq_true rfl, Nat.le_of_ble_eq_true rfl⟩) (va_recv hK hG.1 (ci := 5) (q0 := 0) rfl rfl) rfl hl.1 rfl (Nat.le_of_ble_eq_true rfl) dX5_rule_47 ⟨Nat.le_of_ble_eq_true rfl, Nat.le_of_ble_eq_true rfl⟩ (fun r47 _ H locs hw hG => ?_)
      obtain rfl := hw
      refine lv_if_eq (tgt := 76) S.1 S.2.1 dX5_rule_50 (by decide) (fun c_50 => ?_) (fun c_50 => ?_)
      · have hf := ite_p c_50 hf
        refine lv_iconst (v := 0) S.1 S.2.1 dX5_rule_76 (by decide) ?_
        refine lv_istore (lv' := [(5, .int 0), (0, .ref (ad 0)), (1, .int x1), (2, .int x2), (3, .int x3), (4, .int x4)]) S.1 S.2.1 dX5_rule_77 hl (by decide) rfl (fun ls hl => ?_)
        refine lv_iload S.1 S.2.1 dX5_rule_79 (lv_at hl 0 rfl) ?_
        refine lv_if_ne (tgt := 87) S.1 S.2.1 dX5_rule_81 (by decide) (fun c_ => absurd c_ (by decide)) (fun _ => ?_)
        refine lv_bipush (v := (-2)) S.1 S.2.1 dX5_rule_84 (by decide) ?_
        exact r_iret S hr hlocks hG _ rfl hf rfl dX5_rule_86
      · have hf := ite_n c_50 hf
        refine lv_iload_n S.1 S.2.1 dX5_rule_53 rfl (lv_at hl 1 rfl) ?_
        refine lv_iconst (v := 5) S.1 S.2.1 dX5_rule_54 (by decide) ?_
        refine lv_icmp_eq (tgt := 72) S.1 S.2.1 dX5_rule_55 (by decide) (fun c_55 => ?_) (fun c_55 => ?_)
        · have hf := ite_p c_55 hf
          refine lv_iconst (v := 1) S.1 S.2.1 dX5_rule_72 (by decide) ?_
          refine lv_goto (tgt := 77) S.1 S.2.1 dX5_rule_73 (by decide) ?_
          refine lv_istore (lv' := [(5, .int 1), (0, .ref (ad 0)), (1, .int x1), (2, .int x2), (3, .int x3), (4, .int x4)]) S.1 S.2.1 dX5_rule_77 hl (by decide) rfl (fun ls hl => ?_)
          refine lv_iload S.1 S.2.1 dX5_rule_79 (lv_at hl 0 rfl) ?_
          refine lv_if_ne (tgt := 87) S.1 S.2.1 dX5_rule_81 (by decide) (fun _ => ?_) (fun c_ => absurd c_ (by decide))
          exact b_X5_rule_87 S hr hlocks hK hA σ x1 x2 x3 x4 (hc) (fun e => by first | exact ri_vp c_22 (by decide) | (subst e; exact absurd c_15 (by decide))) hf H locs hG ls (lv_sub hl [1, 2, 3, 4, 5] rfl)
        · have hf := ite_n c_55 hf
          refine lv_iload_n S.1 S.2.1 dX5_rule_58 rfl (lv_at hl 1 rfl) ?_
          refine lv_bipush (v := 8) S.1 S.2.1 dX5_rule_59 (by decide) ?_
          refine lv_icmp_eq (tgt := 72) S.1 S.2.1 dX5_rule_61 (by decide) (fun c_61 => ?_) (fun c_61 => ?_)
          · have hf := ite_p c_61 hf
            refine lv_iconst (v := 1) S.1 S.2.1 dX5_rule_72 (by decide) ?_
            refine lv_goto (tgt := 77) S.1 S.2.1 dX5_rule_73 (by decide) ?_
            refine lv_istore (lv' := [(5, .int 1), (0, .ref (ad 0)), (1, .int x1), (2, .int x2), (3, .int x3), (4, .int x4)]) S.1 S.2.1 dX5_rule_77 hl (by decide) rfl (fun ls hl => ?_)
            refine lv_iload S.1 S.2.1 dX5_rule_79 (lv_at hl 0 rfl) ?_
            refine lv_if_ne (tgt := 87) S.1 S.2.1 dX5_rule_81 (by decide) (fun _ => ?_) (fun c_ => absurd c_ (by decide))
            exact b_X5_rule_87 S hr hlocks hK hA σ x1 x2 x3 x4 (hc) (fun e => by first | exact ri_vp c_22 (by decide) | (subst e; exact absurd c_15 (by decide))) hf H locs hG ls (lv_sub hl [1, 2, 3, 4, 5] rfl)
          · have hf := ite_n c_61 hf
            refine lv_aload_n S.1 S.2.1 dX5_rule_64 rfl (lv_at hl 0 rfl) ?_
            refine lv_iload_n S.1 S.2.1 dX5_rule_65 rfl (lv_at hl 3 rfl) ?_
            refine r_callVi S hK hA hG (k_X5_isRule l _ _ _ _ _) (cwV 1 S.2.2.2.2 gX5_rule_X5_isRule rfl rfl rfl (by decide +kernel) ⟨Nat.le_of_ble_eq_true rfl, Nat.le_of_ble_eq_true rfl⟩) (va_recv hK hG.1 (ci := 5) (q0 := 0) rfl rfl) rfl hl.1 rfl (Nat.le_of_ble_eq_true rfl) dX5_rule_66 ⟨Nat.le_of_ble_eq_true rfl, Nat.le_of_ble_eq_true rfl⟩ (fun r66 _ H locs hw hG => ?_)
            obtain rfl := hw
            refine lv_if_eq (tgt := 76) S.1 S.2.1 dX5_rule_69 (by decide) (fun c_69 => ?_) (fun c_69 => ?_)
            · have hf := ite_p c_69 hf
              refine lv_iconst (v := 0) S.1 S.2.1 dX5_rule_76 (by decide) ?_
              refine lv_istore (lv' := [(5, .int 0), (0, .ref (ad 0)), (1, .int x1), (2, .int x2), (3, .int x3), (4, .int x4)]) S.1 S.2.1 dX5_rule_77 hl (by decide) rfl (fun ls hl => ?_)
              refine lv_iload S.1 S.2.1 dX5_rule_79 (lv_at hl 0 rfl) ?_
              refine lv_if_ne (tgt := 87) S.1 S.2.1 dX5_rule_81 (by decide) (fun c_ => absurd c_ (by decide)) (fun _ => ?_)
              refine lv_bipush (v := (-2)) S.1 S.2.1 dX5_rule_84 (by decide) ?_
              exact r_iret S hr hlocks hG _ rfl hf rfl dX5_rule_86
            · have hf := ite_n c_69 hf
              refine lv_iconst (v := 1) S.1 S.2.1 dX5_rule_72 (by decide) ?_
              refine lv_goto (tgt := 77) S.1 S.2.1 dX5_rule_73 (by decide) ?_
              refine lv_istore (lv' := [(5, .int 1), (0, .ref (ad 0)), (1, .int x1), (2, .int x2), (3, .int x3), (4, .int x4)]) S.1 S.2.1 dX5_rule_77 hl (by decide) rfl (fun ls hl => ?_)
              refine lv_iload S.1 S.2.1 dX5_rule_79 (lv_at hl 0 rfl) ?_
              refine lv_if_ne (tgt := 87) S.1 S.2.1 dX5_rule_81 (by decide) (fun _ => ?_) (fun c_ => absurd c_ (by decide))
              exact b_X5_rule_87 S hr hlocks hK hA σ x1 x2 x3 x4 (hc) (fun e => by first | exact ri_vp c_22 (by decide) | (subst e; exact absurd c_15 (by decide))) hf H locs hG ls (lv_sub hl [1, 2, 3, 4, 5] rfl)
    · have hf := ite_n c_15 hf
      refine lv_iload_n S.1 S.2.1 dX5_rule_18 rfl (lv_at hl 2 rfl) ?_
      refine r_callSi S hK hA hG (k_X5_isSensor l _ _ _ _ _) (cwS 1 S.2.2.2.2 gX5_rule_X5_isSensor rfl rfl rfl (by decide +kernel) ⟨Nat.le_of_ble_eq_true rfl, Nat.le_of_ble_eq_true rfl⟩) rfl hl.1 rfl (Nat.le_of_ble_eq_true rfl) dX5_rule_19 ⟨Nat.le_of_ble_eq_true rfl, Nat.le_of_ble_eq_true rfl⟩ (fun r19 _ H locs hw hG => ?_)
      obtain rfl := hw
      refine lv_if_eq (tgt := 41) S.1 S.2.1 dX5_rule_22 (by decide) (fun c_22 => ?_) (fun c_22 => ?_)
      · have hf := ite_p c_22 hf
        refine lv_iconst (v := 0) S.1 S.2.1 dX5_rule_41 (by decide) ?_
        refine lv_goto (tgt := 77) S.1 S.2.1 dX5_rule_42 (by decide) ?_
        refine lv_istore (lv' := [(5, .int 0), (0, .ref (ad 0)), (1, .int x1), (2, .int x2), (3, .int x3), (4, .int x4)]) S.1 S.2.1 dX5_rule_77 hl (by decide) rfl (fun ls hl => ?_)
        refine lv_iload S.1 S.2.1 dX5_rule_79 (lv_at hl 0 rfl) ?_
        refine lv_if_ne (tgt := 87) S.1 S.2.1 dX5_rule_81 (by decide) (fun c_ => absurd c_ (by decide)) (fun _ => ?_)
        refine lv_bipush (v := (-2)) S.1 S.2.1 dX5_rule_84 (by decide) ?_
        exact r_iret S hr hlocks hG _ rfl hf rfl dX5_rule_86
      · have hf := ite_n c_22 hf
        refine lv_iload_n S.1 S.2.1 dX5_rule_25 rfl (lv_at hl 1 rfl) ?_
        refine lv_iconst (v := 3) S.1 S.2.1 dX5_rule_26 (by decide) ?_
        refine lv_icmp_ne (tgt := 37) S.1 S.2.1 dX5_rule_27 (by decide) (fun c_27 => ?_) (fun c_27 => ?_)
        · have hf := ite_n c_27 hf
          refine lv_iconst (v := 1) S.1 S.2.1 dX5_rule_37 (by decide) ?_
          refine lv_goto (tgt := 77) S.1 S.2.1 dX5_rule_38 (by decide) ?_
          refine lv_istore (lv' := [(5, .int 1), (0, .ref (ad 0)), (1, .int x1), (2, .int x2), (3, .int x3), (4, .int x4)]) S.1 S.2.1 dX5_rule_77 hl (by decide) rfl (fun ls hl => ?_)
          refine lv_iload S.1 S.2.1 dX5_rule_79 (lv_at hl 0 rfl) ?_
          refine lv_if_ne (tgt := 87) S.1 S.2.1 dX5_rule_81 (by decide) (fun _ => ?_) (fun c_ => absurd c_ (by decide))
          exact b_X5_rule_87 S hr hlocks hK hA σ x1 x2 x3 x4 (hc) (fun e => by first | exact ri_vp c_22 (by decide) | (subst e; exact absurd c_15 (by decide))) hf H locs hG ls (lv_sub hl [1, 2, 3, 4, 5] rfl)
        · have hf := ite_p c_27 hf
          refine lv_iload_n S.1 S.2.1 dX5_rule_30 rfl (lv_at hl 3 rfl) ?_
          refine r_callSi S hK hA hG (k_X5_isSensor l _ _ _ _ _) (cwS 1 S.2.2.2.2 gX5_rule_X5_isSensor rfl rfl rfl (by decide +kernel) ⟨Nat.le_of_ble_eq_true rfl, Nat.le_of_ble_eq_true rfl⟩) rfl hl.1 rfl (Nat.le_of_ble_eq_true rfl) dX5_rule_31 ⟨Nat.le_of_ble_eq_true rfl, Nat.le_of_ble_eq_true rfl⟩ (fun r31 _ H locs hw hG => ?_)
          obtain rfl := hw
          refine lv_if_eq (tgt := 41) S.1 S.2.1 dX5_rule_34 (by decide) (fun c_34 => ?_) (fun c_34 => ?_)
          · have hf := ite_p c_34 hf
            refine lv_iconst (v := 0) S.1 S.2.1 dX5_rule_41 (by decide) ?_
            refine lv_goto (tgt := 77) S.1 S.2.1 dX5_rule_42 (by decide) ?_
            refine lv_istore (lv' := [(5, .int 0), (0, .ref (ad 0)), (1, .int x1), (2, .int x2), (3, .int x3), (4, .int x4)]) S.1 S.2.1 dX5_rule_77 hl (by decide) rfl (fun ls hl => ?_)
            refine lv_iload S.1 S.2.1 dX5_rule_79 (lv_at hl 0 rfl) ?_
            refine lv_if_ne (tgt := 87) S.1 S.2.1 dX5_rule_81 (by decide) (fun c_ => absurd c_ (by decide)) (fun _ => ?_)
            refine lv_bipush (v := (-2)) S.1 S.2.1 dX5_rule_84 (by decide) ?_
            exact r_iret S hr hlocks hG _ rfl hf rfl dX5_rule_86
          · have hf := ite_n c_34 hf
            refine lv_iconst (v := 1) S.1 S.2.1 dX5_rule_37 (by decide) ?_
            refine lv_goto (tgt := 77) S.1 S.2.1 dX5_rule_38 (by decide) ?_
            refine lv_istore (lv' := [(5, .int 1), (0, .ref (ad 0)), (1, .int x1), (2, .int x2), (3, .int x3), (4, .int x4)]) S.1 S.2.1 dX5_rule_77 hl (by decide) rfl (fun ls hl => ?_)
            refine lv_iload S.1 S.2.1 dX5_rule_79 (lv_at hl 0 rfl) ?_
            refine lv_if_ne (tgt := 87) S.1 S.2.1 dX5_rule_81 (by decide) (fun _ => ?_) (fun c_ => absurd c_ (by decide))
            exact b_X5_rule_87 S hr hlocks hK hA σ x1 x2 x3 x4 (hc) (fun e => by first | exact ri_vp c_22 (by decide) | (subst e; exact absurd c_15 (by decide))) hf H locs hG ls (lv_sub hl [1, 2, 3, 4, 5] rfl)
  · have hf := ite_p c_7 hf
    refine lv_bipush (v := (-3)) S.1 S.2.1 dX5_rule_10 (by decide) ?_
    exact r_iret S hr hlocks hG _ rfl hf rfl dX5_rule_12
theorem k_X5_rule (l : Launch) (D : va_G) (cI : ClassId) (ad : Nat → Nat) (σ : Mem) (x1 : Int32) (x2 : Int32) (x3 : Int32) (x4 : Int32) (hc : ∃ n : Nat, n ≤ 40 ∧ σ 0 3 = nI n) : CMi l yX5_rule wsX5_rule ({ frames := 2, cells := 0, slots := 0, locals := 43 } : Room) D vwCl [(cI, .int)] (RW ad cI σ) [.ref (ad 0), .int x1, .int x2, .int x3, .int x4] (fun (r : Int32) (u : Mem) => (r, u) = (f_X5_rule σ x1 x2 x3 x4)) (fun u => RW ad cI u) :=
  r_met (by decide) rfl (Nat.le_of_ble_eq_true rfl) (fun p e s m args below meth c ls S hr hlocks _ hK hA hG hl => b_X5_rule_0 S hr hlocks hK hA σ x1 x2 x3 x4 hc rfl _ _ hG ls hl)
theorem in_X5_act : ∀ w ∈ wsX50, w ∈ wsX5_act := by decide +kernel
def f_X5_act_93 (σ : Mem) (x1 : Int32) (x2 : Int32) (x3 : Int32) (x4 : Int32) : Int32 × Mem :=
  (if (σ 0 9) = 40 then
  ((-4), σ)
  else
  bnd (mset σ 11 (σ 0 9).toNatClampNeg x1) fun σ1 =>
  (if x1 = 7 then
  bnd (mset σ1 12 (σ 0 9).toNatClampNeg ((σ 0 9) - 1)) fun σ6 =>
  bnd (mset σ6 13 (σ 0 9).toNatClampNeg x3) fun σ7 =>
  bnd (mset σ7 14 (σ 0 9).toNatClampNeg x4) fun σ8 =>
  bnd (mset σ8 0 9 ((σ 0 9) + 1)) fun σ9 =>
  (((σ 0 9) + 1) - 1, σ9)
  else
  bnd (mset σ1 12 (σ 0 9).toNatClampNeg x2) fun σ2 =>
  bnd (mset σ2 13 (σ 0 9).toNatClampNeg x3) fun σ3 =>
  bnd (mset σ3 14 (σ 0 9).toNatClampNeg x4) fun σ4 =>
  bnd (mset σ4 0 9 ((σ 0 9) + 1)) fun σ5 =>
  (((σ 0 9) + 1) - 1, σ5)))
set_option maxRecDepth 100000 in
set_option maxHeartbeats 4000000 in
theorem b_X5_act_93 {p : Program} {l : Launch} {e : Env} {s : State} {m : MethodId} {args : Array Value} {below : List Frame} {meth : Method} {c : Code} {D : va_G} {cI : ClassId} {ad : Nat → Nat} {w0 : va_W} {X : Int32 × Mem} (S : CallFix p m c cX5_act 5 s args wsX5_act RX5) (hr : meth.sig.returnType = (some .int)) (hlocks : meth.locks = false) (hK : va_K D vwCl [(cI, .int)] s) (hA : ∀ q, s.heap.size ≤ q → va_A w0 s.heap.size q) (σ : Mem) (x1 : Int32) (x2 : Int32) (x3 : Int32) (x4 : Int32) (hc : ∃ n : Nat, n ≤ 40 ∧ σ 0 9 = nI n) (hf : f_X5_act_93 σ x1 x2 x3 x4 = X) (H : Heap) (locs : List Loc) (hG : wI D vwCl (va_A w0 s.heap.size) s.heap H locs (RW ad cI σ)) (ls : Array Slot) (hl : lv_has ls 5 [(0, .ref (ad 0)), (1, .int x1), (2, .int x2), (3, .int x3), (4, .int x4)]) : W p l e ({ frames := 4, cells := 0, slots := 0, locals := 88 } : Room) s m args below meth c H locs 0 0 (MQ below (va_Qi (fun (r : Int32) (u : Mem) => (r, u) = X) (fun u t => wPost D vwCl w0 s.heap.size ((fun u => RW ad cI u) u) t) (va_A w0 s.heap.size)) args s 0 0 (va_A w0 s.heap.size)) (F0 m 93 ls []) := by
  have hin := in_X5_act
  unfold f_X5_act_93 at hf
  refine lv_aload_n S.1 S.2.1 dX5_act_93 rfl (lv_at hl 0 rfl) ?_
  refine M_get S hin hK hG 9 (by decide) (by decide +kernel) rfl dX5_act_94 ?_
  refine lv_bipush (v := 40) S.1 S.2.1 dX5_act_97 (by decide) ?_
  refine lv_icmp_ne (tgt := 105) S.1 S.2.1 dX5_act_99 (by decide) (fun c_99 => ?_) (fun c_99 => ?_)
  · have hf := ite_n c_99 hf
    refine lv_aload_n S.1 S.2.1 dX5_act_105 rfl (lv_at hl 0 rfl) ?_
    refine M_get S hin hK hG 10 (by decide) (by decide +kernel) rfl dX5_act_106 ?_
    refine lv_aload_n S.1 S.2.1 dX5_act_109 rfl (lv_at hl 0 rfl) ?_
    refine M_get S hin hK hG 9 (by decide) (by decide +kernel) rfl dX5_act_110 ?_
    refine lv_iload_n S.1 S.2.1 dX5_act_113 rfl (lv_at hl 1 rfl) ?_
    refine M_ast S hK hG 11 8 40 rfl (ri_cnt hc c_99) (RWs_11 _ _ _ _ _) dX5_act_114 (fun σ1 H locs e_σ1 hG => ?_)
    have hf := bnd_p e_σ1 hf
    refine lv_aload_n S.1 S.2.1 dX5_act_115 rfl (lv_at hl 0 rfl) ?_
    refine M_get S hin hK hG 11 (by decide) (by decide +kernel) rfl dX5_act_116 ?_
    refine lv_aload_n S.1 S.2.1 dX5_act_119 rfl (lv_at hl 0 rfl) ?_
    refine M_get S hin hK hG 9 (v := .int (σ 0 9)) (by decide) (by decide +kernel) (by rw [e_σ1]; rfl) dX5_act_120 ?_
    refine lv_iload_n S.1 S.2.1 dX5_act_123 rfl (lv_at hl 1 rfl) ?_
    refine lv_bipush (v := 7) S.1 S.2.1 dX5_act_124 (by decide) ?_
    refine lv_icmp_ne (tgt := 138) S.1 S.2.1 dX5_act_126 (by decide) (fun c_126 => ?_) (fun c_126 => ?_)
    · have hf := ite_n c_126 hf
      refine lv_iload_n S.1 S.2.1 dX5_act_138 rfl (lv_at hl 2 rfl) ?_
      refine M_ast S hK hG 12 9 40 rfl (ri_cnt hc c_99) (RWs_12 _ _ _ _ _) dX5_act_139 (fun σ2 H locs e_σ2 hG => ?_)
      have hf := bnd_p e_σ2 hf
      refine lv_aload_n S.1 S.2.1 dX5_act_140 rfl (lv_at hl 0 rfl) ?_
      refine M_get S hin hK hG 12 (by decide) (by decide +kernel) rfl dX5_act_141 ?_
      refine lv_aload_n S.1 S.2.1 dX5_act_144 rfl (lv_at hl 0 rfl) ?_
      refine M_get S hin hK hG 9 (v := .int (σ 0 9)) (by decide) (by decide +kernel) (by rw [e_σ2, e_σ1]; rfl) dX5_act_145 ?_
      refine lv_iload_n S.1 S.2.1 dX5_act_148 rfl (lv_at hl 3 rfl) ?_
      refine M_ast S hK hG 13 10 40 rfl (ri_cnt hc c_99) (RWs_13 _ _ _ _ _) dX5_act_149 (fun σ3 H locs e_σ3 hG => ?_)
      have hf := bnd_p e_σ3 hf
      refine lv_aload_n S.1 S.2.1 dX5_act_150 rfl (lv_at hl 0 rfl) ?_
      refine M_get S hin hK hG 13 (by decide) (by decide +kernel) rfl dX5_act_151 ?_
      refine lv_aload_n S.1 S.2.1 dX5_act_154 rfl (lv_at hl 0 rfl) ?_
      refine M_get S hin hK hG 9 (v := .int (σ 0 9)) (by decide) (by decide +kernel) (by rw [e_σ3, e_σ2, e_σ1]; rfl) dX5_act_155 ?_
      refine lv_iload S.1 S.2.1 dX5_act_158 (lv_at hl 4 rfl) ?_
      refine M_ast S hK hG 14 11 40 rfl (ri_cnt hc c_99) (RWs_14 _ _ _ _ _) dX5_act_160 (fun σ4 H locs e_σ4 hG => ?_)
      have hf := bnd_p e_σ4 hf
      refine lv_aload_n S.1 S.2.1 dX5_act_161 rfl (lv_at hl 0 rfl) ?_
      refine lv_dup S.1 S.2.1 dX5_act_162 rfl ?_
      refine M_get S hin hK hG 9 (v := .int (σ 0 9)) (by decide) (by decide +kernel) (by rw [e_σ4, e_σ3, e_σ2, e_σ1]; rfl) dX5_act_163 ?_
      refine lv_iconst (v := 1) S.1 S.2.1 dX5_act_166 (by decide) ?_
      refine lv_iadd S.1 S.2.1 dX5_act_167 ?_
      refine M_put S hin hK hG 9 (by decide) (by decide +kernel) rfl rfl rfl (RWp_9 _ _ _ _) dX5_act_168 (fun σ5 H locs e_σ5 hG => ?_)
      have hf := bnd_p e_σ5 hf
      refine lv_aload_n S.1 S.2.1 dX5_act_171 rfl (lv_at hl 0 rfl) ?_
      refine M_get S hin hK hG 9 (v := .int ((σ 0 9) + 1)) (by decide) (by decide +kernel) (by rw [e_σ5]; rfl) dX5_act_172 ?_
      refine lv_iconst (v := 1) S.1 S.2.1 dX5_act_175 (by decide) ?_
      refine lv_isub S.1 S.2.1 dX5_act_176 ?_
      exact r_iret S hr hlocks hG _ rfl hf rfl dX5_act_177
    · have hf := ite_p c_126 hf
      refine lv_aload_n S.1 S.2.1 dX5_act_129 rfl (lv_at hl 0 rfl) ?_
      refine M_get S hin hK hG 9 (v := .int (σ 0 9)) (by decide) (by decide +kernel) (by rw [e_σ1]; rfl) dX5_act_130 ?_
      refine lv_iconst (v := 1) S.1 S.2.1 dX5_act_133 (by decide) ?_
      refine lv_isub S.1 S.2.1 dX5_act_134 ?_
      refine lv_goto (tgt := 139) S.1 S.2.1 dX5_act_135 (by decide) ?_
      refine M_ast S hK hG 12 9 40 rfl (ri_cnt hc c_99) (RWs_12 _ _ _ _ _) dX5_act_139 (fun σ6 H locs e_σ6 hG => ?_)
      have hf := bnd_p e_σ6 hf
      refine lv_aload_n S.1 S.2.1 dX5_act_140 rfl (lv_at hl 0 rfl) ?_
      refine M_get S hin hK hG 12 (by decide) (by decide +kernel) rfl dX5_act_141 ?_
      refine lv_aload_n S.1 S.2.1 dX5_act_144 rfl (lv_at hl 0 rfl) ?_
      refine M_get S hin hK hG 9 (v := .int (σ 0 9)) (by decide) (by decide +kernel) (by rw [e_σ6, e_σ1]; rfl) dX5_act_145 ?_
      refine lv_iload_n S.1 S.2.1 dX5_act_148 rfl (lv_at hl 3 rfl) ?_
      refine M_ast S hK hG 13 10 40 rfl (ri_cnt hc c_99) (RWs_13 _ _ _ _ _) dX5_act_149 (fun σ7 H locs e_σ7 hG => ?_)
      have hf := bnd_p e_σ7 hf
      refine lv_aload_n S.1 S.2.1 dX5_act_150 rfl (lv_at hl 0 rfl) ?_
      refine M_get S hin hK hG 13 (by decide) (by decide +kernel) rfl dX5_act_151 ?_
      refine lv_aload_n S.1 S.2.1 dX5_act_154 rfl (lv_at hl 0 rfl) ?_
      refine M_get S hin hK hG 9 (v := .int (σ 0 9)) (by decide) (by decide +kernel) (by rw [e_σ7, e_σ6, e_σ1]; rfl) dX5_act_155 ?_
      refine lv_iload S.1 S.2.1 dX5_act_158 (lv_at hl 4 rfl) ?_
      refine M_ast S hK hG 14 11 40 rfl (ri_cnt hc c_99) (RWs_14 _ _ _ _ _) dX5_act_160 (fun σ8 H locs e_σ8 hG => ?_)
      have hf := bnd_p e_σ8 hf
      refine lv_aload_n S.1 S.2.1 dX5_act_161 rfl (lv_at hl 0 rfl) ?_
      refine lv_dup S.1 S.2.1 dX5_act_162 rfl ?_
      refine M_get S hin hK hG 9 (v := .int (σ 0 9)) (by decide) (by decide +kernel) (by rw [e_σ8, e_σ7, e_σ6, e_σ1]; rfl) dX5_act_163 ?_
      refine lv_iconst (v := 1) S.1 S.2.1 dX5_act_166 (by decide) ?_
      refine lv_iadd S.1 S.2.1 dX5_act_167 ?_
      refine M_put S hin hK hG 9 (by decide) (by decide +kernel) rfl rfl rfl (RWp_9 _ _ _ _) dX5_act_168 (fun σ9 H locs e_σ9 hG => ?_)
      have hf := bnd_p e_σ9 hf
      refine lv_aload_n S.1 S.2.1 dX5_act_171 rfl (lv_at hl 0 rfl) ?_
      refine M_get S hin hK hG 9 (v := .int ((σ 0 9) + 1)) (by decide) (by decide +kernel) (by rw [e_σ9]; rfl) dX5_act_172 ?_
      refine lv_iconst (v := 1) S.1 S.2.1 dX5_act_175 (by decide) ?_
      refine lv_isub S.1 S.2.1 dX5_act_176 ?_
      exact r_iret S hr hlocks hG _ rfl hf rfl dX5_act_177
  · have hf := ite_p c_99 hf
    refine lv_bipush (v := (-4)) S.1 S.2.1 dX5_act_102 (by decide) ?_
    exact r_iret S hr hlocks hG _ rfl hf rfl dX5_act_104
def f_X5_act_75 (σ : Mem) (x1 : Int32) (x2 : Int32) (x3 : Int32) (x4 : Int32) : Int32 × Mem :=
  (if x1 = 5 then
  (if (bI (f_X5_in x3 0 100)) = 0 then
  ((-3), σ)
  else
  f_X5_act_93 σ x1 x2 x3 x4)
  else
  f_X5_act_93 σ x1 x2 x3 x4)
set_option maxRecDepth 100000 in
set_option maxHeartbeats 4000000 in
theorem b_X5_act_75 {p : Program} {l : Launch} {e : Env} {s : State} {m : MethodId} {args : Array Value} {below : List Frame} {meth : Method} {c : Code} {D : va_G} {cI : ClassId} {ad : Nat → Nat} {w0 : va_W} {X : Int32 × Mem} (S : CallFix p m c cX5_act 5 s args wsX5_act RX5) (hr : meth.sig.returnType = (some .int)) (hlocks : meth.locks = false) (hK : va_K D vwCl [(cI, .int)] s) (hA : ∀ q, s.heap.size ≤ q → va_A w0 s.heap.size q) (σ : Mem) (x1 : Int32) (x2 : Int32) (x3 : Int32) (x4 : Int32) (hc : ∃ n : Nat, n ≤ 40 ∧ σ 0 9 = nI n) (hf : f_X5_act_75 σ x1 x2 x3 x4 = X) (H : Heap) (locs : List Loc) (hG : wI D vwCl (va_A w0 s.heap.size) s.heap H locs (RW ad cI σ)) (ls : Array Slot) (hl : lv_has ls 5 [(0, .ref (ad 0)), (1, .int x1), (2, .int x2), (3, .int x3), (4, .int x4)]) : W p l e ({ frames := 4, cells := 0, slots := 0, locals := 88 } : Room) s m args below meth c H locs 0 0 (MQ below (va_Qi (fun (r : Int32) (u : Mem) => (r, u) = X) (fun u t => wPost D vwCl w0 s.heap.size ((fun u => RW ad cI u) u) t) (va_A w0 s.heap.size)) args s 0 0 (va_A w0 s.heap.size)) (F0 m 75 ls []) := by
  have hin := in_X5_act
  unfold f_X5_act_75 at hf
  refine lv_iload_n S.1 S.2.1 dX5_act_75 rfl (lv_at hl 1 rfl) ?_
  refine lv_iconst (v := 5) S.1 S.2.1 dX5_act_76 (by decide) ?_
  refine lv_icmp_ne (tgt := 93) S.1 S.2.1 dX5_act_77 (by decide) (fun c_77 => ?_) (fun c_77 => ?_)
  · have hf := ite_n c_77 hf
    exact b_X5_act_93 S hr hlocks hK hA σ x1 x2 x3 x4 (hc) hf H locs hG ls (lv_sub hl [0, 1, 2, 3, 4] rfl)
  · have hf := ite_p c_77 hf
    refine lv_iload_n S.1 S.2.1 dX5_act_80 rfl (lv_at hl 3 rfl) ?_
    refine lv_iconst (v := 0) S.1 S.2.1 dX5_act_81 (by decide) ?_
    refine lv_bipush (v := 100) S.1 S.2.1 dX5_act_82 (by decide) ?_
    refine r_callSi S hK hA hG (k_X5_in l _ _ _ _ _ _ _) (cwS 3 S.2.2.2.2 gX5_act_X5_in rfl rfl rfl (by decide +kernel) ⟨Nat.le_of_ble_eq_true rfl, Nat.le_of_ble_eq_true rfl⟩) rfl hl.1 rfl (Nat.le_of_ble_eq_true rfl) dX5_act_84 ⟨Nat.le_of_ble_eq_true rfl, Nat.le_of_ble_eq_true rfl⟩ (fun r84 _ H locs hw hG => ?_)
    obtain rfl := hw
    refine lv_if_ne (tgt := 93) S.1 S.2.1 dX5_act_87 (by decide) (fun c_87 => ?_) (fun c_87 => ?_)
    · have hf := ite_n c_87 hf
      exact b_X5_act_93 S hr hlocks hK hA σ x1 x2 x3 x4 (hc) hf H locs hG ls (lv_sub hl [0, 1, 2, 3, 4] rfl)
    · have hf := ite_p c_87 hf
      refine lv_bipush (v := (-3)) S.1 S.2.1 dX5_act_90 (by decide) ?_
      exact r_iret S hr hlocks hG _ rfl hf rfl dX5_act_92
def f_X5_act_60 (σ : Mem) (x1 : Int32) (x2 : Int32) (x3 : Int32) (x4 : Int32) : Int32 × Mem :=
  (if x1 = 4 then
  (if (bI (f_X5_in x3 0 9)) = 0 then
  ((-3), σ)
  else
  f_X5_act_75 σ x1 x2 x3 x4)
  else
  f_X5_act_75 σ x1 x2 x3 x4)
set_option maxRecDepth 100000 in
set_option maxHeartbeats 4000000 in
theorem b_X5_act_60 {p : Program} {l : Launch} {e : Env} {s : State} {m : MethodId} {args : Array Value} {below : List Frame} {meth : Method} {c : Code} {D : va_G} {cI : ClassId} {ad : Nat → Nat} {w0 : va_W} {X : Int32 × Mem} (S : CallFix p m c cX5_act 5 s args wsX5_act RX5) (hr : meth.sig.returnType = (some .int)) (hlocks : meth.locks = false) (hK : va_K D vwCl [(cI, .int)] s) (hA : ∀ q, s.heap.size ≤ q → va_A w0 s.heap.size q) (σ : Mem) (x1 : Int32) (x2 : Int32) (x3 : Int32) (x4 : Int32) (hc : ∃ n : Nat, n ≤ 40 ∧ σ 0 9 = nI n) (hf : f_X5_act_60 σ x1 x2 x3 x4 = X) (H : Heap) (locs : List Loc) (hG : wI D vwCl (va_A w0 s.heap.size) s.heap H locs (RW ad cI σ)) (ls : Array Slot) (hl : lv_has ls 5 [(0, .ref (ad 0)), (1, .int x1), (2, .int x2), (3, .int x3), (4, .int x4)]) : W p l e ({ frames := 4, cells := 0, slots := 0, locals := 88 } : Room) s m args below meth c H locs 0 0 (MQ below (va_Qi (fun (r : Int32) (u : Mem) => (r, u) = X) (fun u t => wPost D vwCl w0 s.heap.size ((fun u => RW ad cI u) u) t) (va_A w0 s.heap.size)) args s 0 0 (va_A w0 s.heap.size)) (F0 m 60 ls []) := by
  have hin := in_X5_act
  unfold f_X5_act_60 at hf
  refine lv_iload_n S.1 S.2.1 dX5_act_60 rfl (lv_at hl 1 rfl) ?_
  refine lv_iconst (v := 4) S.1 S.2.1 dX5_act_61 (by decide) ?_
  refine lv_icmp_ne (tgt := 75) S.1 S.2.1 dX5_act_62 (by decide) (fun c_62 => ?_) (fun c_62 => ?_)
  · have hf := ite_n c_62 hf
    exact b_X5_act_75 S hr hlocks hK hA σ x1 x2 x3 x4 (hc) hf H locs hG ls (lv_sub hl [0, 1, 2, 3, 4] rfl)
  · have hf := ite_p c_62 hf
    refine lv_iload_n S.1 S.2.1 dX5_act_65 rfl (lv_at hl 3 rfl) ?_
    refine lv_iconst (v := 0) S.1 S.2.1 dX5_act_66 (by decide) ?_
    refine lv_bipush (v := 9) S.1 S.2.1 dX5_act_67 (by decide) ?_
    refine r_callSi S hK hA hG (k_X5_in l _ _ _ _ _ _ _) (cwS 3 S.2.2.2.2 gX5_act_X5_in rfl rfl rfl (by decide +kernel) ⟨Nat.le_of_ble_eq_true rfl, Nat.le_of_ble_eq_true rfl⟩) rfl hl.1 rfl (Nat.le_of_ble_eq_true rfl) dX5_act_69 ⟨Nat.le_of_ble_eq_true rfl, Nat.le_of_ble_eq_true rfl⟩ (fun r69 _ H locs hw hG => ?_)
    obtain rfl := hw
    refine lv_if_eq (tgt := 90) S.1 S.2.1 dX5_act_72 (by decide) (fun c_72 => ?_) (fun c_72 => ?_)
    · have hf := ite_p c_72 hf
      refine lv_bipush (v := (-3)) S.1 S.2.1 dX5_act_90 (by decide) ?_
      exact r_iret S hr hlocks hG _ rfl hf rfl dX5_act_92
    · have hf := ite_n c_72 hf
      exact b_X5_act_75 S hr hlocks hK hA σ x1 x2 x3 x4 (hc) hf H locs hG ls (lv_sub hl [0, 1, 2, 3, 4] rfl)
def f_X5_act_43 (σ : Mem) (x1 : Int32) (x2 : Int32) (x3 : Int32) (x4 : Int32) : Int32 × Mem :=
  (if x1 = 1 then
  (if (bI (f_X5_in x4 0 1000)) = 0 then
  ((-3), σ)
  else
  f_X5_act_60 σ x1 x2 x3 x4)
  else
  f_X5_act_60 σ x1 x2 x3 x4)
set_option maxRecDepth 100000 in
set_option maxHeartbeats 4000000 in
theorem b_X5_act_43 {p : Program} {l : Launch} {e : Env} {s : State} {m : MethodId} {args : Array Value} {below : List Frame} {meth : Method} {c : Code} {D : va_G} {cI : ClassId} {ad : Nat → Nat} {w0 : va_W} {X : Int32 × Mem} (S : CallFix p m c cX5_act 5 s args wsX5_act RX5) (hr : meth.sig.returnType = (some .int)) (hlocks : meth.locks = false) (hK : va_K D vwCl [(cI, .int)] s) (hA : ∀ q, s.heap.size ≤ q → va_A w0 s.heap.size q) (σ : Mem) (x1 : Int32) (x2 : Int32) (x3 : Int32) (x4 : Int32) (hc : ∃ n : Nat, n ≤ 40 ∧ σ 0 9 = nI n) (hf : f_X5_act_43 σ x1 x2 x3 x4 = X) (H : Heap) (locs : List Loc) (hG : wI D vwCl (va_A w0 s.heap.size) s.heap H locs (RW ad cI σ)) (ls : Array Slot) (hl : lv_has ls 5 [(0, .ref (ad 0)), (1, .int x1), (2, .int x2), (3, .int x3), (4, .int x4)]) : W p l e ({ frames := 4, cells := 0, slots := 0, locals := 88 } : Room) s m args below meth c H locs 0 0 (MQ below (va_Qi (fun (r : Int32) (u : Mem) => (r, u) = X) (fun u t => wPost D vwCl w0 s.heap.size ((fun u => RW ad cI u) u) t) (va_A w0 s.heap.size)) args s 0 0 (va_A w0 s.heap.size)) (F0 m 43 ls []) := by
  have hin := in_X5_act
  unfold f_X5_act_43 at hf
  refine lv_iload_n S.1 S.2.1 dX5_act_43 rfl (lv_at hl 1 rfl) ?_
  refine lv_iconst (v := 1) S.1 S.2.1 dX5_act_44 (by decide) ?_
  refine lv_icmp_ne (tgt := 60) S.1 S.2.1 dX5_act_45 (by decide) (fun c_45 => ?_) (fun c_45 => ?_)
  · have hf := ite_n c_45 hf
    exact b_X5_act_60 S hr hlocks hK hA σ x1 x2 x3 x4 (hc) hf H locs hG ls (lv_sub hl [0, 1, 2, 3, 4] rfl)
  · have hf := ite_p c_45 hf
    refine lv_iload S.1 S.2.1 dX5_act_48 (lv_at hl 4 rfl) ?_
    refine lv_iconst (v := 0) S.1 S.2.1 dX5_act_50 (by decide) ?_
    refine lv_sipush (v := 1000) S.1 S.2.1 dX5_act_51 (by decide) ?_
    refine r_callSi S hK hA hG (k_X5_in l _ _ _ _ _ _ _) (cwS 3 S.2.2.2.2 gX5_act_X5_in rfl rfl rfl (by decide +kernel) ⟨Nat.le_of_ble_eq_true rfl, Nat.le_of_ble_eq_true rfl⟩) rfl hl.1 rfl (Nat.le_of_ble_eq_true rfl) dX5_act_54 ⟨Nat.le_of_ble_eq_true rfl, Nat.le_of_ble_eq_true rfl⟩ (fun r54 _ H locs hw hG => ?_)
    obtain rfl := hw
    refine lv_if_eq (tgt := 90) S.1 S.2.1 dX5_act_57 (by decide) (fun c_57 => ?_) (fun c_57 => ?_)
    · have hf := ite_p c_57 hf
      refine lv_bipush (v := (-3)) S.1 S.2.1 dX5_act_90 (by decide) ?_
      exact r_iret S hr hlocks hG _ rfl hf rfl dX5_act_92
    · have hf := ite_n c_57 hf
      exact b_X5_act_60 S hr hlocks hK hA σ x1 x2 x3 x4 (hc) hf H locs hG ls (lv_sub hl [0, 1, 2, 3, 4] rfl)
def f_X5_act (σ : Mem) (x1 : Int32) (x2 : Int32) (x3 : Int32) (x4 : Int32) : Int32 × Mem :=
  (if (bI (f_X5_in x1 0 8)) = 0 then
  ((-3), σ)
  else
  (if (bI (f_X5_areKnown σ x1 x2 x3 x4)) = 0 then
  ((-2), σ)
  else
  (if x1 = 0 then
  (if (bI (f_X5_in x3 0 1000)) = 0 then
  ((-3), σ)
  else
  f_X5_act_43 σ x1 x2 x3 x4)
  else
  f_X5_act_43 σ x1 x2 x3 x4)))
set_option maxRecDepth 100000 in
set_option maxHeartbeats 4000000 in
theorem b_X5_act_0 {p : Program} {l : Launch} {e : Env} {s : State} {m : MethodId} {args : Array Value} {below : List Frame} {meth : Method} {c : Code} {D : va_G} {cI : ClassId} {ad : Nat → Nat} {w0 : va_W} {X : Int32 × Mem} (S : CallFix p m c cX5_act 5 s args wsX5_act RX5) (hr : meth.sig.returnType = (some .int)) (hlocks : meth.locks = false) (hK : va_K D vwCl [(cI, .int)] s) (hA : ∀ q, s.heap.size ≤ q → va_A w0 s.heap.size q) (σ : Mem) (x1 : Int32) (x2 : Int32) (x3 : Int32) (x4 : Int32) (hc : ∃ n : Nat, n ≤ 40 ∧ σ 0 9 = nI n) (hf : f_X5_act σ x1 x2 x3 x4 = X) (H : Heap) (locs : List Loc) (hG : wI D vwCl (va_A w0 s.heap.size) s.heap H locs (RW ad cI σ)) (ls : Array Slot) (hl : lv_has ls 5 [(0, .ref (ad 0)), (1, .int x1), (2, .int x2), (3, .int x3), (4, .int x4)]) : W p l e ({ frames := 4, cells := 0, slots := 0, locals := 88 } : Room) s m args below meth c H locs 0 0 (MQ below (va_Qi (fun (r : Int32) (u : Mem) => (r, u) = X) (fun u t => wPost D vwCl w0 s.heap.size ((fun u => RW ad cI u) u) t) (va_A w0 s.heap.size)) args s 0 0 (va_A w0 s.heap.size)) (F0 m 0 ls []) := by
  have hin := in_X5_act
  unfold f_X5_act at hf
  refine lv_iload_n S.1 S.2.1 dX5_act_0 rfl (lv_at hl 1 rfl) ?_
  refine lv_iconst (v := 0) S.1 S.2.1 dX5_act_1 (by decide) ?_
  refine lv_bipush (v := 8) S.1 S.2.1 dX5_act_2 (by decide) ?_
  refine r_callSi S hK hA hG (k_X5_in l _ _ _ _ _ _ _) (cwS 3 S.2.2.2.2 gX5_act_X5_in rfl rfl rfl (by decide +kernel) ⟨Nat.le_of_ble_eq_true rfl, Nat.le_of_ble_eq_true rfl⟩) rfl hl.1 rfl (Nat.le_of_ble_eq_true rfl) dX5_act_4 ⟨Nat.le_of_ble_eq_true rfl, Nat.le_of_ble_eq_true rfl⟩ (fun r4 _ H locs hw hG => ?_)
  obtain rfl := hw
  refine lv_if_ne (tgt := 13) S.1 S.2.1 dX5_act_7 (by decide) (fun c_7 => ?_) (fun c_7 => ?_)
  · have hf := ite_n c_7 hf
    refine lv_aload_n S.1 S.2.1 dX5_act_13 rfl (lv_at hl 0 rfl) ?_
    refine lv_iload_n S.1 S.2.1 dX5_act_14 rfl (lv_at hl 1 rfl) ?_
    refine lv_iload_n S.1 S.2.1 dX5_act_15 rfl (lv_at hl 2 rfl) ?_
    refine lv_iload_n S.1 S.2.1 dX5_act_16 rfl (lv_at hl 3 rfl) ?_
    refine lv_iload S.1 S.2.1 dX5_act_17 (lv_at hl 4 rfl) ?_
    refine r_callVi S hK hA hG (k_X5_areKnown l _ _ _ _ _ _ _ _) (cwV 4 S.2.2.2.2 gX5_act_X5_areKnown rfl rfl rfl (by decide +kernel) ⟨Nat.le_of_ble_eq_true rfl, Nat.le_of_ble_eq_true rfl⟩) (va_recv hK hG.1 (ci := 5) (q0 := 0) rfl rfl) rfl hl.1 rfl (Nat.le_of_ble_eq_true rfl) dX5_act_19 ⟨Nat.le_of_ble_eq_true rfl, Nat.le_of_ble_eq_true rfl⟩ (fun r19 _ H locs hw hG => ?_)
    obtain rfl := hw
    refine lv_if_ne (tgt := 28) S.1 S.2.1 dX5_act_22 (by decide) (fun c_22 => ?_) (fun c_22 => ?_)
    · have hf := ite_n c_22 hf
      refine lv_iload_n S.1 S.2.1 dX5_act_28 rfl (lv_at hl 1 rfl) ?_
      refine lv_if_ne (tgt := 43) S.1 S.2.1 dX5_act_29 (by decide) (fun c_29 => ?_) (fun c_29 => ?_)
      · have hf := ite_n c_29 hf
        exact b_X5_act_43 S hr hlocks hK hA σ x1 x2 x3 x4 (hc) hf H locs hG ls (lv_sub hl [0, 1, 2, 3, 4] rfl)
      · have hf := ite_p c_29 hf
        refine lv_iload_n S.1 S.2.1 dX5_act_32 rfl (lv_at hl 3 rfl) ?_
        refine lv_iconst (v := 0) S.1 S.2.1 dX5_act_33 (by decide) ?_
        refine lv_sipush (v := 1000) S.1 S.2.1 dX5_act_34 (by decide) ?_
        refine r_callSi S hK hA hG (k_X5_in l _ _ _ _ _ _ _) (cwS 3 S.2.2.2.2 gX5_act_X5_in rfl rfl rfl (by decide +kernel) ⟨Nat.le_of_ble_eq_true rfl, Nat.le_of_ble_eq_true rfl⟩) rfl hl.1 rfl (Nat.le_of_ble_eq_true rfl) dX5_act_37 ⟨Nat.le_of_ble_eq_true rfl, Nat.le_of_ble_eq_true rfl⟩ (fun r37 _ H locs hw hG => ?_)
        obtain rfl := hw
        refine lv_if_eq (tgt := 90) S.1 S.2.1 dX5_act_40 (by decide) (fun c_40 => ?_) (fun c_40 => ?_)
        · have hf := ite_p c_40 hf
          refine lv_bipush (v := (-3)) S.1 S.2.1 dX5_act_90 (by decide) ?_
          exact r_iret S hr hlocks hG _ rfl hf rfl dX5_act_92
        · have hf := ite_n c_40 hf
          exact b_X5_act_43 S hr hlocks hK hA σ x1 x2 x3 x4 (hc) hf H locs hG ls (lv_sub hl [0, 1, 2, 3, 4] rfl)
    · have hf := ite_p c_22 hf
      refine lv_bipush (v := (-2)) S.1 S.2.1 dX5_act_25 (by decide) ?_
      exact r_iret S hr hlocks hG _ rfl hf rfl dX5_act_27
  · have hf := ite_p c_7 hf
    refine lv_bipush (v := (-3)) S.1 S.2.1 dX5_act_10 (by decide) ?_
    exact r_iret S hr hlocks hG _ rfl hf rfl dX5_act_12
theorem k_X5_act (l : Launch) (D : va_G) (cI : ClassId) (ad : Nat → Nat) (σ : Mem) (x1 : Int32) (x2 : Int32) (x3 : Int32) (x4 : Int32) (hc : ∃ n : Nat, n ≤ 40 ∧ σ 0 9 = nI n) : CMi l yX5_act wsX5_act ({ frames := 4, cells := 0, slots := 0, locals := 88 } : Room) D vwCl [(cI, .int)] (RW ad cI σ) [.ref (ad 0), .int x1, .int x2, .int x3, .int x4] (fun (r : Int32) (u : Mem) => (r, u) = (f_X5_act σ x1 x2 x3 x4)) (fun u => RW ad cI u) :=
  r_met (by decide) rfl (Nat.le_of_ble_eq_true rfl) (fun p e s m args below meth c ls S hr hlocks _ hK hA hG hl => b_X5_act_0 S hr hlocks hK hA σ x1 x2 x3 x4 hc rfl _ _ hG ls hl)
end
section
theorem in_X5_call : ∀ w ∈ wsX50, w ∈ wsX5_call := by decide +kernel
def f_X5_call (σ : Mem) (x1 : Int32) (x2 : Int32) : Mem :=
  (if (σ 0 26) = 300 then
  bnd (mset σ 0 33 1) fun σ7 =>
  bnd (mset σ7 0 35 5) fun σ8 =>
  σ8
  else
  bnd (mset σ 0 26 ((σ 0 26) + 1)) fun σ1 =>
  bnd (mset σ1 28 (σ1 0 25).toNatClampNeg x1) fun σ2 =>
  bnd (mset σ2 29 (σ1 0 25).toNatClampNeg x2) fun σ3 =>
  bnd (mset σ3 30 (σ1 0 25).toNatClampNeg 0) fun σ4 =>
  bnd (mset σ4 0 33 0) fun σ5 =>
  bnd (mset σ5 0 25 ((σ1 0 25) + 1)) fun σ6 =>
  σ6)
set_option maxRecDepth 100000 in
set_option maxHeartbeats 4000000 in
theorem b_X5_call_0 {p : Program} {l : Launch} {e : Env} {s : State} {m : MethodId} {args : Array Value} {below : List Frame} {meth : Method} {c : Code} {D : va_G} {cI : ClassId} {ad : Nat → Nat} {w0 : va_W} {X : Mem} (S : CallFix p m c cX5_call 3 s args wsX5_call RX5) (hr : meth.sig.returnType = none) (hlocks : meth.locks = false) (hK : va_K D vwCl [(cI, .int)] s) (hA : ∀ q, s.heap.size ≤ q → va_A w0 s.heap.size q) (σ : Mem) (x1 : Int32) (x2 : Int32) (ht : ¬ σ 0 26 = 300 → vp_in (σ 0 25) 300) (hf : f_X5_call σ x1 x2 = X) (H : Heap) (locs : List Loc) (hG : wI D vwCl (va_A w0 s.heap.size) s.heap H locs (RW ad cI σ)) (ls : Array Slot) (hl : lv_has ls 3 [(0, .ref (ad 0)), (1, .int x1), (2, .int x2)]) : W p l e ({ frames := 0, cells := 0, slots := 0, locals := 0 } : Room) s m args below meth c H locs 0 0 (MQ below (va_Qv (fun (u : Mem) => u = X) (fun u t => wPost D vwCl w0 s.heap.size ((fun u => RW ad cI u) u) t) (va_A w0 s.heap.size)) args s 0 0 (va_A w0 s.heap.size)) (F0 m 0 ls []) := by
  have hin := in_X5_call
  unfold f_X5_call at hf
  refine lv_aload_n S.1 S.2.1 dX5_call_0 rfl (lv_at hl 0 rfl) ?_
  refine M_get S hin hK hG 26 (by decide) (by decide +kernel) rfl dX5_call_1 ?_
  refine lv_sipush (v := 300) S.1 S.2.1 dX5_call_4 (by decide) ?_
  refine lv_icmp_ne (tgt := 21) S.1 S.2.1 dX5_call_7 (by decide) (fun c_7 => ?_) (fun c_7 => ?_)
  · have hf := ite_n c_7 hf
    refine lv_aload_n S.1 S.2.1 dX5_call_21 rfl (lv_at hl 0 rfl) ?_
    refine lv_dup S.1 S.2.1 dX5_call_22 rfl ?_
    refine M_get S hin hK hG 26 (by decide) (by decide +kernel) rfl dX5_call_23 ?_
    refine lv_iconst (v := 1) S.1 S.2.1 dX5_call_26 (by decide) ?_
    refine lv_iadd S.1 S.2.1 dX5_call_27 ?_
    refine M_put S hin hK hG 26 (by decide) (by decide +kernel) rfl rfl rfl (RWp_26 _ _ _ _) dX5_call_28 (fun σ1 H locs e_σ1 hG => ?_)
    have hf := bnd_p e_σ1 hf
    refine lv_aload_n S.1 S.2.1 dX5_call_31 rfl (lv_at hl 0 rfl) ?_
    refine M_get S hin hK hG 27 (by decide) (by decide +kernel) rfl dX5_call_32 ?_
    refine lv_aload_n S.1 S.2.1 dX5_call_35 rfl (lv_at hl 0 rfl) ?_
    refine M_get S hin hK hG 25 (by decide) (by decide +kernel) rfl dX5_call_36 ?_
    refine lv_iload_n S.1 S.2.1 dX5_call_39 rfl (lv_at hl 1 rfl) ?_
    refine M_ast S hK hG 28 17 300 rfl (by rw [e_σ1]; exact ht c_7) (RWs_28 _ _ _ _ _) dX5_call_40 (fun σ2 H locs e_σ2 hG => ?_)
    have hf := bnd_p e_σ2 hf
    refine lv_aload_n S.1 S.2.1 dX5_call_41 rfl (lv_at hl 0 rfl) ?_
    refine M_get S hin hK hG 28 (by decide) (by decide +kernel) rfl dX5_call_42 ?_
    refine lv_aload_n S.1 S.2.1 dX5_call_45 rfl (lv_at hl 0 rfl) ?_
    refine M_get S hin hK hG 25 (v := .int (σ1 0 25)) (by decide) (by decide +kernel) (by rw [e_σ2]; rfl) dX5_call_46 ?_
    refine lv_iload_n S.1 S.2.1 dX5_call_49 rfl (lv_at hl 2 rfl) ?_
    refine M_ast S hK hG 29 18 300 rfl (by rw [e_σ1]; exact ht c_7) (RWs_29 _ _ _ _ _) dX5_call_50 (fun σ3 H locs e_σ3 hG => ?_)
    have hf := bnd_p e_σ3 hf
    refine lv_aload_n S.1 S.2.1 dX5_call_51 rfl (lv_at hl 0 rfl) ?_
    refine M_get S hin hK hG 29 (by decide) (by decide +kernel) rfl dX5_call_52 ?_
    refine lv_aload_n S.1 S.2.1 dX5_call_55 rfl (lv_at hl 0 rfl) ?_
    refine M_get S hin hK hG 25 (v := .int (σ1 0 25)) (by decide) (by decide +kernel) (by rw [e_σ3, e_σ2]; rfl) dX5_call_56 ?_
    refine lv_iconst (v := 0) S.1 S.2.1 dX5_call_59 (by decide) ?_
    refine M_ast S hK hG 30 19 300 rfl (by rw [e_σ1]; exact ht c_7) (RWs_30 _ _ _ _ _) dX5_call_60 (fun σ4 H locs e_σ4 hG => ?_)
    have hf := bnd_p e_σ4 hf
    refine lv_aload_n S.1 S.2.1 dX5_call_61 rfl (lv_at hl 0 rfl) ?_
    refine lv_iconst (v := 0) S.1 S.2.1 dX5_call_62 (by decide) ?_
    refine M_put S hin hK hG 33 (by decide) (by decide +kernel) rfl rfl rfl (RWp_33 _ _ _ _) dX5_call_63 (fun σ5 H locs e_σ5 hG => ?_)
    have hf := bnd_p e_σ5 hf
    refine lv_aload_n S.1 S.2.1 dX5_call_66 rfl (lv_at hl 0 rfl) ?_
    refine lv_dup S.1 S.2.1 dX5_call_67 rfl ?_
    refine M_get S hin hK hG 25 (v := .int (σ1 0 25)) (by decide) (by decide +kernel) (by rw [e_σ5, e_σ4, e_σ3, e_σ2]; rfl) dX5_call_68 ?_
    refine lv_iconst (v := 1) S.1 S.2.1 dX5_call_71 (by decide) ?_
    refine lv_iadd S.1 S.2.1 dX5_call_72 ?_
    refine M_put S hin hK hG 25 (by decide) (by decide +kernel) rfl rfl rfl (RWp_25 _ _ _ _) dX5_call_73 (fun σ6 H locs e_σ6 hG => ?_)
    have hf := bnd_p e_σ6 hf
    exact r_vret S hr hlocks hG _ rfl hf dX5_call_76
  · have hf := ite_p c_7 hf
    refine lv_aload_n S.1 S.2.1 dX5_call_10 rfl (lv_at hl 0 rfl) ?_
    refine lv_iconst (v := 1) S.1 S.2.1 dX5_call_11 (by decide) ?_
    refine M_put S hin hK hG 33 (by decide) (by decide +kernel) rfl rfl rfl (RWp_33 _ _ _ _) dX5_call_12 (fun σ7 H locs e_σ7 hG => ?_)
    have hf := bnd_p e_σ7 hf
    refine lv_aload_n S.1 S.2.1 dX5_call_15 rfl (lv_at hl 0 rfl) ?_
    refine lv_iconst (v := 5) S.1 S.2.1 dX5_call_16 (by decide) ?_
    refine M_put S hin hK hG 35 (by decide) (by decide +kernel) rfl rfl rfl (RWp_35 _ _ _ _) dX5_call_17 (fun σ8 H locs e_σ8 hG => ?_)
    have hf := bnd_p e_σ8 hf
    exact r_vret S hr hlocks hG _ rfl hf dX5_call_20
theorem k_X5_call (l : Launch) (D : va_G) (cI : ClassId) (ad : Nat → Nat) (σ : Mem) (x1 : Int32) (x2 : Int32) (ht : ¬ σ 0 26 = 300 → vp_in (σ 0 25) 300) : CMv l yX5_call wsX5_call ({ frames := 0, cells := 0, slots := 0, locals := 0 } : Room) D vwCl [(cI, .int)] (RW ad cI σ) [.ref (ad 0), .int x1, .int x2] (fun (u : Mem) => u = (f_X5_call σ x1 x2)) (fun u => RW ad cI u) :=
  r_met (by decide) rfl (Nat.le_of_ble_eq_true rfl) (fun p e s m args below meth c ls S hr hlocks _ hK hA hG hl => b_X5_call_0 S hr hlocks hK hA σ x1 x2 ht rfl _ _ hG ls hl)
theorem in_X5_ends : ∀ w ∈ wsX50, w ∈ wsX5_ends := by decide +kernel
def f_X5_ends (σ : Mem) (x1 : Int32) : Mem :=
  bnd (mset σ 0 25 ((σ 0 25) - 1)) fun σ1 =>
  bnd (mset σ1 0 33 1) fun σ2 =>
  bnd (mset σ2 0 34 x1) fun σ3 =>
  bnd (mset σ3 0 35 0) fun σ4 =>
  σ4
set_option maxRecDepth 100000 in
set_option maxHeartbeats 4000000 in
theorem b_X5_ends_0 {p : Program} {l : Launch} {e : Env} {s : State} {m : MethodId} {args : Array Value} {below : List Frame} {meth : Method} {c : Code} {D : va_G} {cI : ClassId} {ad : Nat → Nat} {w0 : va_W} {X : Mem} (S : CallFix p m c cX5_ends 2 s args wsX5_ends RX5) (hr : meth.sig.returnType = none) (hlocks : meth.locks = false) (hK : va_K D vwCl [(cI, .int)] s) (hA : ∀ q, s.heap.size ≤ q → va_A w0 s.heap.size q) (σ : Mem) (x1 : Int32) (hf : f_X5_ends σ x1 = X) (H : Heap) (locs : List Loc) (hG : wI D vwCl (va_A w0 s.heap.size) s.heap H locs (RW ad cI σ)) (ls : Array Slot) (hl : lv_has ls 2 [(0, .ref (ad 0)), (1, .int x1)]) : W p l e ({ frames := 0, cells := 0, slots := 0, locals := 0 } : Room) s m args below meth c H locs 0 0 (MQ below (va_Qv (fun (u : Mem) => u = X) (fun u t => wPost D vwCl w0 s.heap.size ((fun u => RW ad cI u) u) t) (va_A w0 s.heap.size)) args s 0 0 (va_A w0 s.heap.size)) (F0 m 0 ls []) := by
  have hin := in_X5_ends
  unfold f_X5_ends at hf
  refine lv_aload_n S.1 S.2.1 dX5_ends_0 rfl (lv_at hl 0 rfl) ?_
  refine lv_dup S.1 S.2.1 dX5_ends_1 rfl ?_
  refine M_get S hin hK hG 25 (by decide) (by decide +kernel) rfl dX5_ends_2 ?_
  refine lv_iconst (v := 1) S.1 S.2.1 dX5_ends_5 (by decide) ?_
  refine lv_isub S.1 S.2.1 dX5_ends_6 ?_
  refine M_put S hin hK hG 25 (by decide) (by decide +kernel) rfl rfl rfl (RWp_25 _ _ _ _) dX5_ends_7 (fun σ1 H locs e_σ1 hG => ?_)
  have hf := bnd_p e_σ1 hf
  refine lv_aload_n S.1 S.2.1 dX5_ends_10 rfl (lv_at hl 0 rfl) ?_
  refine lv_iconst (v := 1) S.1 S.2.1 dX5_ends_11 (by decide) ?_
  refine M_put S hin hK hG 33 (by decide) (by decide +kernel) rfl rfl rfl (RWp_33 _ _ _ _) dX5_ends_12 (fun σ2 H locs e_σ2 hG => ?_)
  have hf := bnd_p e_σ2 hf
  refine lv_aload_n S.1 S.2.1 dX5_ends_15 rfl (lv_at hl 0 rfl) ?_
  refine lv_iload_n S.1 S.2.1 dX5_ends_16 rfl (lv_at hl 1 rfl) ?_
  refine M_put S hin hK hG 34 (by decide) (by decide +kernel) rfl rfl rfl (RWp_34 _ _ _ _) dX5_ends_17 (fun σ3 H locs e_σ3 hG => ?_)
  have hf := bnd_p e_σ3 hf
  refine lv_aload_n S.1 S.2.1 dX5_ends_20 rfl (lv_at hl 0 rfl) ?_
  refine lv_iconst (v := 0) S.1 S.2.1 dX5_ends_21 (by decide) ?_
  refine M_put S hin hK hG 35 (by decide) (by decide +kernel) rfl rfl rfl (RWp_35 _ _ _ _) dX5_ends_22 (fun σ4 H locs e_σ4 hG => ?_)
  have hf := bnd_p e_σ4 hf
  exact r_vret S hr hlocks hG _ rfl hf dX5_ends_25
theorem k_X5_ends (l : Launch) (D : va_G) (cI : ClassId) (ad : Nat → Nat) (σ : Mem) (x1 : Int32) : CMv l yX5_ends wsX5_ends ({ frames := 0, cells := 0, slots := 0, locals := 0 } : Room) D vwCl [(cI, .int)] (RW ad cI σ) [.ref (ad 0), .int x1] (fun (u : Mem) => u = (f_X5_ends σ x1)) (fun u => RW ad cI u) :=
  r_met (by decide) rfl (Nat.le_of_ble_eq_true rfl) (fun p e s m args below meth c ls S hr hlocks _ hK hA hG hl => b_X5_ends_0 S hr hlocks hK hA σ x1 rfl _ _ hG ls hl)
theorem in_X5_fails : ∀ w ∈ wsX50, w ∈ wsX5_fails := by decide +kernel
def f_X5_fails (σ : Mem) (x1 : Int32) : Mem :=
  bnd (mset σ 0 25 ((σ 0 25) - 1)) fun σ1 =>
  bnd (mset σ1 0 33 1) fun σ2 =>
  bnd (mset σ2 0 34 0) fun σ3 =>
  bnd (mset σ3 0 35 x1) fun σ4 =>
  σ4
set_option maxRecDepth 100000 in
set_option maxHeartbeats 4000000 in
theorem b_X5_fails_0 {p : Program} {l : Launch} {e : Env} {s : State} {m : MethodId} {args : Array Value} {below : List Frame} {meth : Method} {c : Code} {D : va_G} {cI : ClassId} {ad : Nat → Nat} {w0 : va_W} {X : Mem} (S : CallFix p m c cX5_fails 2 s args wsX5_fails RX5) (hr : meth.sig.returnType = none) (hlocks : meth.locks = false) (hK : va_K D vwCl [(cI, .int)] s) (hA : ∀ q, s.heap.size ≤ q → va_A w0 s.heap.size q) (σ : Mem) (x1 : Int32) (hf : f_X5_fails σ x1 = X) (H : Heap) (locs : List Loc) (hG : wI D vwCl (va_A w0 s.heap.size) s.heap H locs (RW ad cI σ)) (ls : Array Slot) (hl : lv_has ls 2 [(0, .ref (ad 0)), (1, .int x1)]) : W p l e ({ frames := 0, cells := 0, slots := 0, locals := 0 } : Room) s m args below meth c H locs 0 0 (MQ below (va_Qv (fun (u : Mem) => u = X) (fun u t => wPost D vwCl w0 s.heap.size ((fun u => RW ad cI u) u) t) (va_A w0 s.heap.size)) args s 0 0 (va_A w0 s.heap.size)) (F0 m 0 ls []) := by
  have hin := in_X5_fails
  unfold f_X5_fails at hf
  refine lv_aload_n S.1 S.2.1 dX5_fails_0 rfl (lv_at hl 0 rfl) ?_
  refine lv_dup S.1 S.2.1 dX5_fails_1 rfl ?_
  refine M_get S hin hK hG 25 (by decide) (by decide +kernel) rfl dX5_fails_2 ?_
  refine lv_iconst (v := 1) S.1 S.2.1 dX5_fails_5 (by decide) ?_
  refine lv_isub S.1 S.2.1 dX5_fails_6 ?_
  refine M_put S hin hK hG 25 (by decide) (by decide +kernel) rfl rfl rfl (RWp_25 _ _ _ _) dX5_fails_7 (fun σ1 H locs e_σ1 hG => ?_)
  have hf := bnd_p e_σ1 hf
  refine lv_aload_n S.1 S.2.1 dX5_fails_10 rfl (lv_at hl 0 rfl) ?_
  refine lv_iconst (v := 1) S.1 S.2.1 dX5_fails_11 (by decide) ?_
  refine M_put S hin hK hG 33 (by decide) (by decide +kernel) rfl rfl rfl (RWp_33 _ _ _ _) dX5_fails_12 (fun σ2 H locs e_σ2 hG => ?_)
  have hf := bnd_p e_σ2 hf
  refine lv_aload_n S.1 S.2.1 dX5_fails_15 rfl (lv_at hl 0 rfl) ?_
  refine lv_iconst (v := 0) S.1 S.2.1 dX5_fails_16 (by decide) ?_
  refine M_put S hin hK hG 34 (by decide) (by decide +kernel) rfl rfl rfl (RWp_34 _ _ _ _) dX5_fails_17 (fun σ3 H locs e_σ3 hG => ?_)
  have hf := bnd_p e_σ3 hf
  refine lv_aload_n S.1 S.2.1 dX5_fails_20 rfl (lv_at hl 0 rfl) ?_
  refine lv_iload_n S.1 S.2.1 dX5_fails_21 rfl (lv_at hl 1 rfl) ?_
  refine M_put S hin hK hG 35 (by decide) (by decide +kernel) rfl rfl rfl (RWp_35 _ _ _ _) dX5_fails_22 (fun σ4 H locs e_σ4 hG => ?_)
  have hf := bnd_p e_σ4 hf
  exact r_vret S hr hlocks hG _ rfl hf dX5_fails_25
theorem k_X5_fails (l : Launch) (D : va_G) (cI : ClassId) (ad : Nat → Nat) (σ : Mem) (x1 : Int32) : CMv l yX5_fails wsX5_fails ({ frames := 0, cells := 0, slots := 0, locals := 0 } : Room) D vwCl [(cI, .int)] (RW ad cI σ) [.ref (ad 0), .int x1] (fun (u : Mem) => u = (f_X5_fails σ x1)) (fun u => RW ad cI u) :=
  r_met (by decide) rfl (Nat.le_of_ble_eq_true rfl) (fun p e s m args below meth c ls S hr hlocks _ hK hA hG hl => b_X5_fails_0 S hr hlocks hK hA σ x1 rfl _ _ hG ls hl)
theorem in_X5_passes : ∀ w ∈ wsX50, w ∈ wsX5_passes := by decide +kernel
def f_X5_passes (σ : Mem) : Mem :=
  bnd (mset σ 0 25 ((σ 0 25) - 1)) fun σ1 =>
  σ1
set_option maxRecDepth 100000 in
set_option maxHeartbeats 4000000 in
theorem b_X5_passes_0 {p : Program} {l : Launch} {e : Env} {s : State} {m : MethodId} {args : Array Value} {below : List Frame} {meth : Method} {c : Code} {D : va_G} {cI : ClassId} {ad : Nat → Nat} {w0 : va_W} {X : Mem} (S : CallFix p m c cX5_passes 1 s args wsX5_passes RX5) (hr : meth.sig.returnType = none) (hlocks : meth.locks = false) (hK : va_K D vwCl [(cI, .int)] s) (hA : ∀ q, s.heap.size ≤ q → va_A w0 s.heap.size q) (σ : Mem) (hf : f_X5_passes σ = X) (H : Heap) (locs : List Loc) (hG : wI D vwCl (va_A w0 s.heap.size) s.heap H locs (RW ad cI σ)) (ls : Array Slot) (hl : lv_has ls 1 [(0, .ref (ad 0))]) : W p l e ({ frames := 0, cells := 0, slots := 0, locals := 0 } : Room) s m args below meth c H locs 0 0 (MQ below (va_Qv (fun (u : Mem) => u = X) (fun u t => wPost D vwCl w0 s.heap.size ((fun u => RW ad cI u) u) t) (va_A w0 s.heap.size)) args s 0 0 (va_A w0 s.heap.size)) (F0 m 0 ls []) := by
  have hin := in_X5_passes
  unfold f_X5_passes at hf
  refine lv_aload_n S.1 S.2.1 dX5_passes_0 rfl (lv_at hl 0 rfl) ?_
  refine lv_dup S.1 S.2.1 dX5_passes_1 rfl ?_
  refine M_get S hin hK hG 25 (by decide) (by decide +kernel) rfl dX5_passes_2 ?_
  refine lv_iconst (v := 1) S.1 S.2.1 dX5_passes_5 (by decide) ?_
  refine lv_isub S.1 S.2.1 dX5_passes_6 ?_
  refine M_put S hin hK hG 25 (by decide) (by decide +kernel) rfl rfl rfl (RWp_25 _ _ _ _) dX5_passes_7 (fun σ1 H locs e_σ1 hG => ?_)
  have hf := bnd_p e_σ1 hf
  exact r_vret S hr hlocks hG _ rfl hf dX5_passes_10
theorem k_X5_passes (l : Launch) (D : va_G) (cI : ClassId) (ad : Nat → Nat) (σ : Mem) : CMv l yX5_passes wsX5_passes ({ frames := 0, cells := 0, slots := 0, locals := 0 } : Room) D vwCl [(cI, .int)] (RW ad cI σ) [.ref (ad 0)] (fun (u : Mem) => u = (f_X5_passes σ)) (fun u => RW ad cI u) :=
  r_met (by decide) rfl (Nat.le_of_ble_eq_true rfl) (fun p e s m args below meth c ls S hr hlocks _ hK hA hG hl => b_X5_passes_0 S hr hlocks hK hA σ rfl _ _ hG ls hl)
theorem in_X5_goOn : ∀ w ∈ wsX50, w ∈ wsX5_goOn := by decide +kernel
def f_X5_goOn (σ : Mem) (x1 : Int32) (x2 : Int32) (x3 : Int32) : Mem :=
  bnd (mset σ 30 x1.toNatClampNeg ((σ 30 x1.toNatClampNeg) + 1)) fun σ1 =>
  bnd (f_X5_call σ1 x2 x3) fun σ2 =>
  σ2
set_option maxRecDepth 100000 in
set_option maxHeartbeats 4000000 in
theorem b_X5_goOn_0 {p : Program} {l : Launch} {e : Env} {s : State} {m : MethodId} {args : Array Value} {below : List Frame} {meth : Method} {c : Code} {D : va_G} {cI : ClassId} {ad : Nat → Nat} {w0 : va_W} {X : Mem} (S : CallFix p m c cX5_goOn 4 s args wsX5_goOn RX5) (hr : meth.sig.returnType = none) (hlocks : meth.locks = false) (hK : va_K D vwCl [(cI, .int)] s) (hA : ∀ q, s.heap.size ≤ q → va_A w0 s.heap.size q) (σ : Mem) (x1 : Int32) (x2 : Int32) (x3 : Int32) (hat : vp_in x1 300) (ht : ¬ σ 0 26 = 300 → vp_in (σ 0 25) 300) (hf : f_X5_goOn σ x1 x2 x3 = X) (H : Heap) (locs : List Loc) (hG : wI D vwCl (va_A w0 s.heap.size) s.heap H locs (RW ad cI σ)) (ls : Array Slot) (hl : lv_has ls 4 [(0, .ref (ad 0)), (1, .int x1), (2, .int x2), (3, .int x3)]) : W p l e ({ frames := 1, cells := 0, slots := 0, locals := 22 } : Room) s m args below meth c H locs 0 0 (MQ below (va_Qv (fun (u : Mem) => u = X) (fun u t => wPost D vwCl w0 s.heap.size ((fun u => RW ad cI u) u) t) (va_A w0 s.heap.size)) args s 0 0 (va_A w0 s.heap.size)) (F0 m 0 ls []) := by
  have hin := in_X5_goOn
  unfold f_X5_goOn at hf
  refine lv_aload_n S.1 S.2.1 dX5_goOn_0 rfl (lv_at hl 0 rfl) ?_
  refine M_get S hin hK hG 29 (by decide) (by decide +kernel) rfl dX5_goOn_1 ?_
  refine lv_iload_n S.1 S.2.1 dX5_goOn_4 rfl (lv_at hl 1 rfl) ?_
  refine lv_aload_n S.1 S.2.1 dX5_goOn_5 rfl (lv_at hl 0 rfl) ?_
  refine M_get S hin hK hG 29 (by decide) (by decide +kernel) rfl dX5_goOn_6 ?_
  refine lv_iload_n S.1 S.2.1 dX5_goOn_9 rfl (lv_at hl 1 rfl) ?_
  refine r_iald S hK hG 19 0 rfl rfl hat dX5_goOn_10 ?_
  refine lv_iconst (v := 1) S.1 S.2.1 dX5_goOn_11 (by decide) ?_
  refine lv_iadd S.1 S.2.1 dX5_goOn_12 ?_
  refine M_ast S hK hG 30 19 300 rfl hat (RWs_30 _ _ _ _ _) dX5_goOn_13 (fun σ1 H locs e_σ1 hG => ?_)
  have hf := bnd_p e_σ1 hf
  refine lv_aload_n S.1 S.2.1 dX5_goOn_14 rfl (lv_at hl 0 rfl) ?_
  refine lv_iload_n S.1 S.2.1 dX5_goOn_15 rfl (lv_at hl 2 rfl) ?_
  refine lv_iload_n S.1 S.2.1 dX5_goOn_16 rfl (lv_at hl 3 rfl) ?_
  refine r_callVv S hK hA hG (k_X5_call l _ _ _ _ _ _ (by rw [e_σ1]; exact ht)) (cwV 2 S.2.2.2.2 gX5_goOn_X5_call rfl rfl rfl (by decide +kernel) ⟨Nat.le_of_ble_eq_true rfl, Nat.le_of_ble_eq_true rfl⟩) (va_recv hK hG.1 (ci := 5) (q0 := 0) rfl rfl) rfl hl.1 rfl (Nat.le_of_ble_eq_true rfl) dX5_goOn_17 ⟨Nat.le_of_ble_eq_true rfl, Nat.le_of_ble_eq_true rfl⟩ (fun σ2 H locs e_σ2 hG => ?_)
  have hf := bnd_p e_σ2 hf
  exact r_vret S hr hlocks hG _ rfl hf dX5_goOn_20
theorem k_X5_goOn (l : Launch) (D : va_G) (cI : ClassId) (ad : Nat → Nat) (σ : Mem) (x1 : Int32) (x2 : Int32) (x3 : Int32) (hat : vp_in x1 300) (ht : ¬ σ 0 26 = 300 → vp_in (σ 0 25) 300) : CMv l yX5_goOn wsX5_goOn ({ frames := 1, cells := 0, slots := 0, locals := 22 } : Room) D vwCl [(cI, .int)] (RW ad cI σ) [.ref (ad 0), .int x1, .int x2, .int x3] (fun (u : Mem) => u = (f_X5_goOn σ x1 x2 x3)) (fun u => RW ad cI u) :=
  r_met (by decide) rfl (Nat.le_of_ble_eq_true rfl) (fun p e s m args below meth c ls S hr hlocks _ hK hA hG hl => b_X5_goOn_0 S hr hlocks hK hA σ x1 x2 x3 hat ht rfl _ _ hG ls hl)
theorem in_X5_says : ∀ w ∈ wsX50, w ∈ wsX5_says := by decide +kernel
def f_X5_says (σ : Mem) (x1 : Int32) (x2 : Int32) : Mem :=
  bnd (σ 7 x1.toNatClampNeg) fun v1 =>
  bnd (σ 1 x2.toNatClampNeg) fun v2 =>
  (if (σ 5 x1.toNatClampNeg) = 0 then
  (if v2 ≤ v1 then
  bnd (f_X5_ends σ 0) fun σ3 =>
  σ3
  else
  bnd (f_X5_ends σ 1) fun σ4 =>
  σ4)
  else
  (if (σ 5 x1.toNatClampNeg) = 1 then
  bnd (((v2).toInt64) - ((v1).toInt64)) fun v5 =>
  (if 0 ≤ (lg_cmp v5 0) then
  (if 0 < (lg_cmp v5 ((σ 8 x1.toNatClampNeg).toInt64)) then
  bnd (f_X5_ends σ 0) fun σ6 =>
  σ6
  else
  bnd (f_X5_ends σ 1) fun σ7 =>
  σ7)
  else
  (if 0 < (lg_cmp (-v5) ((σ 8 x1.toNatClampNeg).toInt64)) then
  bnd (f_X5_ends σ 0) fun σ8 =>
  σ8
  else
  bnd (f_X5_ends σ 1) fun σ9 =>
  σ9))
  else
  (if (σ 5 x1.toNatClampNeg) = 2 then
  (if v2 = (σ 9 x1.toNatClampNeg) then
  bnd (f_X5_ends σ 0) fun σ10 =>
  σ10
  else
  bnd (f_X5_ends σ 1) fun σ11 =>
  σ11)
  else
  (if (σ 5 x1.toNatClampNeg) = 3 then
  (if (σ 1 v1.toNatClampNeg) = 0 then
  bnd (f_X5_fails σ 1) fun σ14 =>
  σ14
  else
  (if (v2 / (σ 1 v1.toNatClampNeg)) < (σ 8 x1.toNatClampNeg) then
  bnd (f_X5_ends σ 0) fun σ12 =>
  σ12
  else
  bnd (f_X5_ends σ 1) fun σ13 =>
  σ13))
  else
  (if (bI (f_X5_isSensor v2)) = 0 then
  bnd (f_X5_fails σ 2) fun σ17 =>
  σ17
  else
  (if (σ 1 v2.toNatClampNeg) ≤ v1 then
  bnd (f_X5_ends σ 0) fun σ15 =>
  σ15
  else
  bnd (f_X5_ends σ 1) fun σ16 =>
  σ16))))))
set_option maxRecDepth 100000 in
set_option maxHeartbeats 4000000 in
theorem b_X5_says_0 {p : Program} {l : Launch} {e : Env} {s : State} {m : MethodId} {args : Array Value} {below : List Frame} {meth : Method} {c : Code} {D : va_G} {cI : ClassId} {ad : Nat → Nat} {w0 : va_W} {X : Mem} (S : CallFix p m c cX5_says 7 s args wsX5_says RX5) (hr : meth.sig.returnType = none) (hlocks : meth.locks = false) (hK : va_K D vwCl [(cI, .int)] s) (hA : ∀ q, s.heap.size ≤ q → va_A w0 s.heap.size q) (σ : Mem) (x1 : Int32) (x2 : Int32) (hri : vp_in x1 40) (hai : vp_in x2 8) (hbi : σ 5 x1.toNatClampNeg = 3 → vp_in (σ 7 x1.toNatClampNeg) 8) (hf : f_X5_says σ x1 x2 = X) (H : Heap) (locs : List Loc) (hG : wI D vwCl (va_A w0 s.heap.size) s.heap H locs (RW ad cI σ)) (ls : Array Slot) (hl : lv_has ls 7 [(0, .ref (ad 0)), (1, .int x1), (2, .int x2)]) : W p l e ({ frames := 2, cells := 0, slots := 0, locals := 42 } : Room) s m args below meth c H locs 0 0 (MQ below (va_Qv (fun (u : Mem) => u = X) (fun u t => wPost D vwCl w0 s.heap.size ((fun u => RW ad cI u) u) t) (va_A w0 s.heap.size)) args s 0 0 (va_A w0 s.heap.size)) (F0 m 0 ls []) := by
  have hin := in_X5_says
  unfold f_X5_says at hf
  refine lv_aload_n S.1 S.2.1 dX5_says_0 rfl (lv_at hl 0 rfl) ?_
  refine M_get S hin hK hG 6 (by decide) (by decide +kernel) rfl dX5_says_1 ?_
  refine lv_iload_n S.1 S.2.1 dX5_says_4 rfl (lv_at hl 1 rfl) ?_
  refine r_iald S hK hG 5 0 rfl rfl hri dX5_says_5 ?_
  refine lv_topi (fun v1 e_v1 => ?_)
  have hf := bnd_p e_v1 hf
  refine lv_istore_n (lv' := [(3, .int v1), (0, .ref (ad 0)), (1, .int x1), (2, .int x2)]) S.1 S.2.1 dX5_says_6 rfl hl (by decide) rfl (fun ls hl => ?_)
  refine lv_aload_n S.1 S.2.1 dX5_says_7 rfl (lv_at hl 1 rfl) ?_
  refine M_get S hin hK hG 0 (by decide) (by decide +kernel) rfl dX5_says_8 ?_
  refine lv_iload_n S.1 S.2.1 dX5_says_11 rfl (lv_at hl 3 rfl) ?_
  refine r_iald S hK hG 1 0 rfl rfl hai dX5_says_12 ?_
  refine lv_topi (fun v2 e_v2 => ?_)
  have hf := bnd_p e_v2 hf
  refine lv_istore (lv' := [(4, .int v2), (3, .int v1), (0, .ref (ad 0)), (1, .int x1), (2, .int x2)]) S.1 S.2.1 dX5_says_13 hl (by decide) rfl (fun ls hl => ?_)
  refine lv_aload_n S.1 S.2.1 dX5_says_15 rfl (lv_at hl 2 rfl) ?_
  refine M_get S hin hK hG 4 (by decide) (by decide +kernel) rfl dX5_says_16 ?_
  refine lv_iload_n S.1 S.2.1 dX5_says_19 rfl (lv_at hl 3 rfl) ?_
  refine r_iald S hK hG 3 0 rfl rfl hri dX5_says_20 ?_
  refine (Decidable.em ((σ 5 x1.toNatClampNeg) = 0)).elim (fun c_21_0 => ?_) (fun c_21_0 => ?_)
  · have hf := ite_p c_21_0 hf
    refine lv_tableIn (off := 31) (tgt := 52) S.1 S.2.1 dX5_says_21 (by rw [c_21_0]; decide) (by rw [c_21_0]; decide) (by rw [c_21_0]; rfl) (by decide) ?_
    refine lv_aload_n S.1 S.2.1 dX5_says_52 rfl (lv_at hl 2 rfl) ?_
    refine lv_iload S.1 S.2.1 dX5_says_53 (lv_at hl 0 rfl) ?_
    refine lv_iload_n S.1 S.2.1 dX5_says_55 rfl (lv_at hl 1 rfl) ?_
    refine lv_icmp_le (tgt := 63) S.1 S.2.1 dX5_says_56 (by decide) (fun c_56 => ?_) (fun c_56 => ?_)
    · have hf := ite_p c_56 hf
      refine lv_iconst (v := 0) S.1 S.2.1 dX5_says_63 (by decide) ?_
      refine r_callVv S hK hA hG (k_X5_ends l _ _ _ _ _) (cwV 1 S.2.2.2.2 gX5_says_X5_ends rfl rfl rfl (by decide +kernel) ⟨Nat.le_of_ble_eq_true rfl, Nat.le_of_ble_eq_true rfl⟩) (va_recv hK hG.1 (ci := 5) (q0 := 0) rfl rfl) rfl hl.1 rfl (Nat.le_of_ble_eq_true rfl) dX5_says_64 ⟨Nat.le_of_ble_eq_true rfl, Nat.le_of_ble_eq_true rfl⟩ (fun σ3 H locs e_σ3 hG => ?_)
      have hf := bnd_p e_σ3 hf
      refine lv_goto (tgt := 222) S.1 S.2.1 dX5_says_67 (by decide) ?_
      exact r_vret S hr hlocks hG _ rfl hf dX5_says_222
    · have hf := ite_n c_56 hf
      refine lv_iconst (v := 1) S.1 S.2.1 dX5_says_59 (by decide) ?_
      refine lv_goto (tgt := 64) S.1 S.2.1 dX5_says_60 (by decide) ?_
      refine r_callVv S hK hA hG (k_X5_ends l _ _ _ _ _) (cwV 1 S.2.2.2.2 gX5_says_X5_ends rfl rfl rfl (by decide +kernel) ⟨Nat.le_of_ble_eq_true rfl, Nat.le_of_ble_eq_true rfl⟩) (va_recv hK hG.1 (ci := 5) (q0 := 0) rfl rfl) rfl hl.1 rfl (Nat.le_of_ble_eq_true rfl) dX5_says_64 ⟨Nat.le_of_ble_eq_true rfl, Nat.le_of_ble_eq_true rfl⟩ (fun σ4 H locs e_σ4 hG => ?_)
      have hf := bnd_p e_σ4 hf
      refine lv_goto (tgt := 222) S.1 S.2.1 dX5_says_67 (by decide) ?_
      exact r_vret S hr hlocks hG _ rfl hf dX5_says_222
  have hf := ite_n c_21_0 hf
  refine (Decidable.em ((σ 5 x1.toNatClampNeg) = 1)).elim (fun c_21_1 => ?_) (fun c_21_1 => ?_)
  · have hf := ite_p c_21_1 hf
    refine lv_tableIn (off := 49) (tgt := 70) S.1 S.2.1 dX5_says_21 (by rw [c_21_1]; decide) (by rw [c_21_1]; decide) (by rw [c_21_1]; rfl) (by decide) ?_
    refine lv_iload S.1 S.2.1 dX5_says_70 (lv_at hl 0 rfl) ?_
    refine lv_i2l S.1 S.2.1 dX5_says_72 rfl ?_
    refine lv_iload_n S.1 S.2.1 dX5_says_73 rfl (lv_at hl 1 rfl) ?_
    refine lv_i2l S.1 S.2.1 dX5_says_74 rfl ?_
    refine lv_lsub S.1 S.2.1 dX5_says_75 ?_
    refine lv_topl (fun v5 e_v5 => ?_)
    have hf := bnd_p e_v5 hf
    refine lv_lstore (lv' := [(5, .long (v5)), (4, .int v2), (3, .int v1), (0, .ref (ad 0)), (1, .int x1), (2, .int x2)]) S.1 S.2.1 dX5_says_76 hl (by decide) rfl (fun ls hl => ?_)
    refine lv_aload_n S.1 S.2.1 dX5_says_78 rfl (lv_at hl 3 rfl) ?_
    refine lv_lload S.1 S.2.1 dX5_says_79 (lv_at hl 0 rfl) ?_
    refine lv_lconst (v := 0) S.1 S.2.1 dX5_says_81 (by decide) ?_
    refine W.lcmp S.1 S.2.1 dX5_says_82 ?_
    refine lv_if_ge (tgt := 92) S.1 S.2.1 dX5_says_83 (by decide) (fun c_83 => ?_) (fun c_83 => ?_)
    · have hf := ite_p c_83 hf
      refine lv_lload S.1 S.2.1 dX5_says_92 (lv_at hl 0 rfl) ?_
      refine lv_aload_n S.1 S.2.1 dX5_says_94 rfl (lv_at hl 3 rfl) ?_
      refine M_get S hin hK hG 7 (by decide) (by decide +kernel) rfl dX5_says_95 ?_
      refine lv_iload_n S.1 S.2.1 dX5_says_98 rfl (lv_at hl 4 rfl) ?_
      refine r_iald S hK hG 6 0 rfl rfl hri dX5_says_99 ?_
      refine lv_i2l S.1 S.2.1 dX5_says_100 rfl ?_
      refine W.lcmp S.1 S.2.1 dX5_says_101 ?_
      refine lv_if_gt (tgt := 109) S.1 S.2.1 dX5_says_102 (by decide) (fun c_102 => ?_) (fun c_102 => ?_)
      · have hf := ite_p c_102 hf
        refine lv_iconst (v := 0) S.1 S.2.1 dX5_says_109 (by decide) ?_
        refine r_callVv S hK hA hG (k_X5_ends l _ _ _ _ _) (cwV 1 S.2.2.2.2 gX5_says_X5_ends rfl rfl rfl (by decide +kernel) ⟨Nat.le_of_ble_eq_true rfl, Nat.le_of_ble_eq_true rfl⟩) (va_recv hK hG.1 (ci := 5) (q0 := 0) rfl rfl) rfl hl.1 rfl (Nat.le_of_ble_eq_true rfl) dX5_says_110 ⟨Nat.le_of_ble_eq_true rfl, Nat.le_of_ble_eq_true rfl⟩ (fun σ6 H locs e_σ6 hG => ?_)
        have hf := bnd_p e_σ6 hf
        refine lv_goto (tgt := 222) S.1 S.2.1 dX5_says_113 (by decide) ?_
        exact r_vret S hr hlocks hG _ rfl hf dX5_says_222
      · have hf := ite_n c_102 hf
        refine lv_iconst (v := 1) S.1 S.2.1 dX5_says_105 (by decide) ?_
        refine lv_goto (tgt := 110) S.1 S.2.1 dX5_says_106 (by decide) ?_
        refine r_callVv S hK hA hG (k_X5_ends l _ _ _ _ _) (cwV 1 S.2.2.2.2 gX5_says_X5_ends rfl rfl rfl (by decide +kernel) ⟨Nat.le_of_ble_eq_true rfl, Nat.le_of_ble_eq_true rfl⟩) (va_recv hK hG.1 (ci := 5) (q0 := 0) rfl rfl) rfl hl.1 rfl (Nat.le_of_ble_eq_true rfl) dX5_says_110 ⟨Nat.le_of_ble_eq_true rfl, Nat.le_of_ble_eq_true rfl⟩ (fun σ7 H locs e_σ7 hG => ?_)
        have hf := bnd_p e_σ7 hf
        refine lv_goto (tgt := 222) S.1 S.2.1 dX5_says_113 (by decide) ?_
        exact r_vret S hr hlocks hG _ rfl hf dX5_says_222
    · have hf := ite_n c_83 hf
      refine lv_lload S.1 S.2.1 dX5_says_86 (lv_at hl 0 rfl) ?_
      refine lv_lneg S.1 S.2.1 dX5_says_88 ?_
      refine lv_goto (tgt := 94) S.1 S.2.1 dX5_says_89 (by decide) ?_
      refine lv_aload_n S.1 S.2.1 dX5_says_94 rfl (lv_at hl 3 rfl) ?_
      refine M_get S hin hK hG 7 (by decide) (by decide +kernel) rfl dX5_says_95 ?_
      refine lv_iload_n S.1 S.2.1 dX5_says_98 rfl (lv_at hl 4 rfl) ?_
      refine r_iald S hK hG 6 0 rfl rfl hri dX5_says_99 ?_
      refine lv_i2l S.1 S.2.1 dX5_says_100 rfl ?_
      refine W.lcmp S.1 S.2.1 dX5_says_101 ?_
      refine lv_if_gt (tgt := 109) S.1 S.2.1 dX5_says_102 (by decide) (fun c_102 => ?_) (fun c_102 => ?_)
      · have hf := ite_p c_102 hf
        refine lv_iconst (v := 0) S.1 S.2.1 dX5_says_109 (by decide) ?_
        refine r_callVv S hK hA hG (k_X5_ends l _ _ _ _ _) (cwV 1 S.2.2.2.2 gX5_says_X5_ends rfl rfl rfl (by decide +kernel) ⟨Nat.le_of_ble_eq_true rfl, Nat.le_of_ble_eq_true rfl⟩) (va_recv hK hG.1 (ci := 5) (q0 := 0) rfl rfl) rfl hl.1 rfl (Nat.le_of_ble_eq_true rfl) dX5_says_110 ⟨Nat.le_of_ble_eq_true rfl, Nat.le_of_ble_eq_true rfl⟩ (fun σ8 H locs e_σ8 hG => ?_)
        have hf := bnd_p e_σ8 hf
        refine lv_goto (tgt := 222) S.1 S.2.1 dX5_says_113 (by decide) ?_
        exact r_vret S hr hlocks hG _ rfl hf dX5_says_222
      · have hf := ite_n c_102 hf
        refine lv_iconst (v := 1) S.1 S.2.1 dX5_says_105 (by decide) ?_
        refine lv_goto (tgt := 110) S.1 S.2.1 dX5_says_106 (by decide) ?_
        refine r_callVv S hK hA hG (k_X5_ends l _ _ _ _ _) (cwV 1 S.2.2.2.2 gX5_says_X5_ends rfl rfl rfl (by decide +kernel) ⟨Nat.le_of_ble_eq_true rfl, Nat.le_of_ble_eq_true rfl⟩) (va_recv hK hG.1 (ci := 5) (q0 := 0) rfl rfl) rfl hl.1 rfl (Nat.le_of_ble_eq_true rfl) dX5_says_110 ⟨Nat.le_of_ble_eq_true rfl, Nat.le_of_ble_eq_true rfl⟩ (fun σ9 H locs e_σ9 hG => ?_)
        have hf := bnd_p e_σ9 hf
        refine lv_goto (tgt := 222) S.1 S.2.1 dX5_says_113 (by decide) ?_
        exact r_vret S hr hlocks hG _ rfl hf dX5_says_222
  have hf := ite_n c_21_1 hf
  refine (Decidable.em ((σ 5 x1.toNatClampNeg) = 2)).elim (fun c_21_2 => ?_) (fun c_21_2 => ?_)
  · have hf := ite_p c_21_2 hf
    refine lv_tableIn (off := 95) (tgt := 116) S.1 S.2.1 dX5_says_21 (by rw [c_21_2]; decide) (by rw [c_21_2]; decide) (by rw [c_21_2]; rfl) (by decide) ?_
    refine lv_aload_n S.1 S.2.1 dX5_says_116 rfl (lv_at hl 2 rfl) ?_
    refine lv_iload S.1 S.2.1 dX5_says_117 (lv_at hl 0 rfl) ?_
    refine lv_aload_n S.1 S.2.1 dX5_says_119 rfl (lv_at hl 2 rfl) ?_
    refine M_get S hin hK hG 8 (by decide) (by decide +kernel) rfl dX5_says_120 ?_
    refine lv_iload_n S.1 S.2.1 dX5_says_123 rfl (lv_at hl 3 rfl) ?_
    refine r_iald S hK hG 7 0 rfl rfl hri dX5_says_124 ?_
    refine lv_icmp_eq (tgt := 132) S.1 S.2.1 dX5_says_125 (by decide) (fun c_125 => ?_) (fun c_125 => ?_)
    · have hf := ite_p c_125 hf
      refine lv_iconst (v := 0) S.1 S.2.1 dX5_says_132 (by decide) ?_
      refine r_callVv S hK hA hG (k_X5_ends l _ _ _ _ _) (cwV 1 S.2.2.2.2 gX5_says_X5_ends rfl rfl rfl (by decide +kernel) ⟨Nat.le_of_ble_eq_true rfl, Nat.le_of_ble_eq_true rfl⟩) (va_recv hK hG.1 (ci := 5) (q0 := 0) rfl rfl) rfl hl.1 rfl (Nat.le_of_ble_eq_true rfl) dX5_says_133 ⟨Nat.le_of_ble_eq_true rfl, Nat.le_of_ble_eq_true rfl⟩ (fun σ10 H locs e_σ10 hG => ?_)
      have hf := bnd_p e_σ10 hf
      refine lv_goto (tgt := 222) S.1 S.2.1 dX5_says_136 (by decide) ?_
      exact r_vret S hr hlocks hG _ rfl hf dX5_says_222
    · have hf := ite_n c_125 hf
      refine lv_iconst (v := 1) S.1 S.2.1 dX5_says_128 (by decide) ?_
      refine lv_goto (tgt := 133) S.1 S.2.1 dX5_says_129 (by decide) ?_
      refine r_callVv S hK hA hG (k_X5_ends l _ _ _ _ _) (cwV 1 S.2.2.2.2 gX5_says_X5_ends rfl rfl rfl (by decide +kernel) ⟨Nat.le_of_ble_eq_true rfl, Nat.le_of_ble_eq_true rfl⟩) (va_recv hK hG.1 (ci := 5) (q0 := 0) rfl rfl) rfl hl.1 rfl (Nat.le_of_ble_eq_true rfl) dX5_says_133 ⟨Nat.le_of_ble_eq_true rfl, Nat.le_of_ble_eq_true rfl⟩ (fun σ11 H locs e_σ11 hG => ?_)
      have hf := bnd_p e_σ11 hf
      refine lv_goto (tgt := 222) S.1 S.2.1 dX5_says_136 (by decide) ?_
      exact r_vret S hr hlocks hG _ rfl hf dX5_says_222
  have hf := ite_n c_21_2 hf
  refine (Decidable.em ((σ 5 x1.toNatClampNeg) = 3)).elim (fun c_21_3 => ?_) (fun c_21_3 => ?_)
  · have hf := ite_p c_21_3 hf
    refine lv_tableIn (off := 118) (tgt := 139) S.1 S.2.1 dX5_says_21 (by rw [c_21_3]; decide) (by rw [c_21_3]; decide) (by rw [c_21_3]; rfl) (by decide) ?_
    refine lv_aload_n S.1 S.2.1 dX5_says_139 rfl (lv_at hl 2 rfl) ?_
    refine M_get S hin hK hG 0 (by decide) (by decide +kernel) rfl dX5_says_140 ?_
    refine lv_iload_n S.1 S.2.1 dX5_says_143 rfl (lv_at hl 1 rfl) ?_
    refine r_iald S hK hG 1 0 rfl rfl (by rw [e_v1]; exact hbi c_21_3) dX5_says_144 ?_
    refine lv_if_ne (tgt := 156) S.1 S.2.1 dX5_says_145 (by decide) (fun c_145 => ?_) (fun c_145 => ?_)
    · have hf := ite_n c_145 hf
      refine lv_aload_n S.1 S.2.1 dX5_says_156 rfl (lv_at hl 2 rfl) ?_
      refine lv_iload S.1 S.2.1 dX5_says_157 (lv_at hl 0 rfl) ?_
      refine lv_aload_n S.1 S.2.1 dX5_says_159 rfl (lv_at hl 2 rfl) ?_
      refine M_get S hin hK hG 0 (by decide) (by decide +kernel) rfl dX5_says_160 ?_
      refine lv_iload_n S.1 S.2.1 dX5_says_163 rfl (lv_at hl 1 rfl) ?_
      refine r_iald S hK hG 1 0 rfl rfl (by rw [e_v1]; exact hbi c_21_3) dX5_says_164 ?_
      refine lv_idiv S.1 S.2.1 dX5_says_165 c_145 ?_
      refine lv_aload_n S.1 S.2.1 dX5_says_166 rfl (lv_at hl 2 rfl) ?_
      refine M_get S hin hK hG 7 (by decide) (by decide +kernel) rfl dX5_says_167 ?_
      refine lv_iload_n S.1 S.2.1 dX5_says_170 rfl (lv_at hl 3 rfl) ?_
      refine r_iald S hK hG 6 0 rfl rfl hri dX5_says_171 ?_
      refine lv_icmp_lt (tgt := 179) S.1 S.2.1 dX5_says_172 (by decide) (fun c_172 => ?_) (fun c_172 => ?_)
      · have hf := ite_p c_172 hf
        refine lv_iconst (v := 0) S.1 S.2.1 dX5_says_179 (by decide) ?_
        refine r_callVv S hK hA hG (k_X5_ends l _ _ _ _ _) (cwV 1 S.2.2.2.2 gX5_says_X5_ends rfl rfl rfl (by decide +kernel) ⟨Nat.le_of_ble_eq_true rfl, Nat.le_of_ble_eq_true rfl⟩) (va_recv hK hG.1 (ci := 5) (q0 := 0) rfl rfl) rfl hl.1 rfl (Nat.le_of_ble_eq_true rfl) dX5_says_180 ⟨Nat.le_of_ble_eq_true rfl, Nat.le_of_ble_eq_true rfl⟩ (fun σ12 H locs e_σ12 hG => ?_)
        have hf := bnd_p e_σ12 hf
        refine lv_goto (tgt := 222) S.1 S.2.1 dX5_says_183 (by decide) ?_
        exact r_vret S hr hlocks hG _ rfl hf dX5_says_222
      · have hf := ite_n c_172 hf
        refine lv_iconst (v := 1) S.1 S.2.1 dX5_says_175 (by decide) ?_
        refine lv_goto (tgt := 180) S.1 S.2.1 dX5_says_176 (by decide) ?_
        refine r_callVv S hK hA hG (k_X5_ends l _ _ _ _ _) (cwV 1 S.2.2.2.2 gX5_says_X5_ends rfl rfl rfl (by decide +kernel) ⟨Nat.le_of_ble_eq_true rfl, Nat.le_of_ble_eq_true rfl⟩) (va_recv hK hG.1 (ci := 5) (q0 := 0) rfl rfl) rfl hl.1 rfl (Nat.le_of_ble_eq_true rfl) dX5_says_180 ⟨Nat.le_of_ble_eq_true rfl, Nat.le_of_ble_eq_true rfl⟩ (fun σ13 H locs e_σ13 hG => ?_)
        have hf := bnd_p e_σ13 hf
        refine lv_goto (tgt := 222) S.1 S.2.1 dX5_says_183 (by decide) ?_
        exact r_vret S hr hlocks hG _ rfl hf dX5_says_222
    · have hf := ite_p c_145 hf
      refine lv_aload_n S.1 S.2.1 dX5_says_148 rfl (lv_at hl 2 rfl) ?_
      refine lv_iconst (v := 1) S.1 S.2.1 dX5_says_149 (by decide) ?_
      refine r_callVv S hK hA hG (k_X5_fails l _ _ _ _ _) (cwV 1 S.2.2.2.2 gX5_says_X5_fails rfl rfl rfl (by decide +kernel) ⟨Nat.le_of_ble_eq_true rfl, Nat.le_of_ble_eq_true rfl⟩) (va_recv hK hG.1 (ci := 5) (q0 := 0) rfl rfl) rfl hl.1 rfl (Nat.le_of_ble_eq_true rfl) dX5_says_150 ⟨Nat.le_of_ble_eq_true rfl, Nat.le_of_ble_eq_true rfl⟩ (fun σ14 H locs e_σ14 hG => ?_)
      have hf := bnd_p e_σ14 hf
      refine lv_goto (tgt := 222) S.1 S.2.1 dX5_says_153 (by decide) ?_
      exact r_vret S hr hlocks hG _ rfl hf dX5_says_222
  have hf := ite_n c_21_3 hf
  refine lv_tableOut (tgt := 186) S.1 S.2.1 dX5_says_21 (by have h0 := sw_ne (z := 0) rfl c_21_0; have h1 := sw_ne (z := 1) rfl c_21_1; have h2 := sw_ne (z := 2) rfl c_21_2; have h3 := sw_ne (z := 3) rfl c_21_3; omega) (by decide) ?_
  refine lv_iload S.1 S.2.1 dX5_says_186 (lv_at hl 0 rfl) ?_
  refine r_callSi S hK hA hG (k_X5_isSensor l _ _ _ _ _) (cwS 1 S.2.2.2.2 gX5_says_X5_isSensor rfl rfl rfl (by decide +kernel) ⟨Nat.le_of_ble_eq_true rfl, Nat.le_of_ble_eq_true rfl⟩) rfl hl.1 rfl (Nat.le_of_ble_eq_true rfl) dX5_says_188 ⟨Nat.le_of_ble_eq_true rfl, Nat.le_of_ble_eq_true rfl⟩ (fun r188 _ H locs hw hG => ?_)
  obtain rfl := hw
  refine lv_if_ne (tgt := 202) S.1 S.2.1 dX5_says_191 (by decide) (fun c_191 => ?_) (fun c_191 => ?_)
  · have hf := ite_n c_191 hf
    refine lv_aload_n S.1 S.2.1 dX5_says_202 rfl (lv_at hl 2 rfl) ?_
    refine lv_aload_n S.1 S.2.1 dX5_says_203 rfl (lv_at hl 2 rfl) ?_
    refine M_get S hin hK hG 0 (by decide) (by decide +kernel) rfl dX5_says_204 ?_
    refine lv_iload S.1 S.2.1 dX5_says_207 (lv_at hl 0 rfl) ?_
    refine r_iald S hK hG 1 0 rfl rfl (ri_vp c_191 (by decide)) dX5_says_209 ?_
    refine lv_iload_n S.1 S.2.1 dX5_says_210 rfl (lv_at hl 1 rfl) ?_
    refine lv_icmp_le (tgt := 218) S.1 S.2.1 dX5_says_211 (by decide) (fun c_211 => ?_) (fun c_211 => ?_)
    · have hf := ite_p c_211 hf
      refine lv_iconst (v := 0) S.1 S.2.1 dX5_says_218 (by decide) ?_
      refine r_callVv S hK hA hG (k_X5_ends l _ _ _ _ _) (cwV 1 S.2.2.2.2 gX5_says_X5_ends rfl rfl rfl (by decide +kernel) ⟨Nat.le_of_ble_eq_true rfl, Nat.le_of_ble_eq_true rfl⟩) (va_recv hK hG.1 (ci := 5) (q0 := 0) rfl rfl) rfl hl.1 rfl (Nat.le_of_ble_eq_true rfl) dX5_says_219 ⟨Nat.le_of_ble_eq_true rfl, Nat.le_of_ble_eq_true rfl⟩ (fun σ15 H locs e_σ15 hG => ?_)
      have hf := bnd_p e_σ15 hf
      exact r_vret S hr hlocks hG _ rfl hf dX5_says_222
    · have hf := ite_n c_211 hf
      refine lv_iconst (v := 1) S.1 S.2.1 dX5_says_214 (by decide) ?_
      refine lv_goto (tgt := 219) S.1 S.2.1 dX5_says_215 (by decide) ?_
      refine r_callVv S hK hA hG (k_X5_ends l _ _ _ _ _) (cwV 1 S.2.2.2.2 gX5_says_X5_ends rfl rfl rfl (by decide +kernel) ⟨Nat.le_of_ble_eq_true rfl, Nat.le_of_ble_eq_true rfl⟩) (va_recv hK hG.1 (ci := 5) (q0 := 0) rfl rfl) rfl hl.1 rfl (Nat.le_of_ble_eq_true rfl) dX5_says_219 ⟨Nat.le_of_ble_eq_true rfl, Nat.le_of_ble_eq_true rfl⟩ (fun σ16 H locs e_σ16 hG => ?_)
      have hf := bnd_p e_σ16 hf
      exact r_vret S hr hlocks hG _ rfl hf dX5_says_222
  · have hf := ite_p c_191 hf
    refine lv_aload_n S.1 S.2.1 dX5_says_194 rfl (lv_at hl 2 rfl) ?_
    refine lv_iconst (v := 2) S.1 S.2.1 dX5_says_195 (by decide) ?_
    refine r_callVv S hK hA hG (k_X5_fails l _ _ _ _ _) (cwV 1 S.2.2.2.2 gX5_says_X5_fails rfl rfl rfl (by decide +kernel) ⟨Nat.le_of_ble_eq_true rfl, Nat.le_of_ble_eq_true rfl⟩) (va_recv hK hG.1 (ci := 5) (q0 := 0) rfl rfl) rfl hl.1 rfl (Nat.le_of_ble_eq_true rfl) dX5_says_196 ⟨Nat.le_of_ble_eq_true rfl, Nat.le_of_ble_eq_true rfl⟩ (fun σ17 H locs e_σ17 hG => ?_)
    have hf := bnd_p e_σ17 hf
    refine lv_goto (tgt := 222) S.1 S.2.1 dX5_says_199 (by decide) ?_
    exact r_vret S hr hlocks hG _ rfl hf dX5_says_222
theorem k_X5_says (l : Launch) (D : va_G) (cI : ClassId) (ad : Nat → Nat) (σ : Mem) (x1 : Int32) (x2 : Int32) (hri : vp_in x1 40) (hai : vp_in x2 8) (hbi : σ 5 x1.toNatClampNeg = 3 → vp_in (σ 7 x1.toNatClampNeg) 8) : CMv l yX5_says wsX5_says ({ frames := 2, cells := 0, slots := 0, locals := 42 } : Room) D vwCl [(cI, .int)] (RW ad cI σ) [.ref (ad 0), .int x1, .int x2] (fun (u : Mem) => u = (f_X5_says σ x1 x2)) (fun u => RW ad cI u) :=
  r_met (by decide) rfl (Nat.le_of_ble_eq_true rfl) (fun p e s m args below meth c ls S hr hlocks _ hK hA hG hl => b_X5_says_0 S hr hlocks hK hA σ x1 x2 hri hai hbi rfl _ _ hG ls hl)
theorem in_X5_waits : ∀ w ∈ wsX50, w ∈ wsX5_waits := by decide +kernel
def f_X5_waits (σ : Mem) (x1 : Int32) (x2 : Int32) : Mem :=
  (if 60 ≤ (σ 0 14) then
  σ
  else
  bnd (mset σ 16 (σ 0 14).toNatClampNeg x1) fun σ1 =>
  bnd (mset σ1 17 (σ 0 14).toNatClampNeg x2) fun σ2 =>
  bnd (mset σ2 0 14 ((σ 0 14) + 1)) fun σ3 =>
  σ3)
set_option maxRecDepth 100000 in
set_option maxHeartbeats 4000000 in
theorem b_X5_waits_0 {p : Program} {l : Launch} {e : Env} {s : State} {m : MethodId} {args : Array Value} {below : List Frame} {meth : Method} {c : Code} {D : va_G} {cI : ClassId} {ad : Nat → Nat} {w0 : va_W} {X : Mem} (S : CallFix p m c cX5_waits 3 s args wsX5_waits RX5) (hr : meth.sig.returnType = none) (hlocks : meth.locks = false) (hK : va_K D vwCl [(cI, .int)] s) (hA : ∀ q, s.heap.size ≤ q → va_A w0 s.heap.size q) (σ : Mem) (x1 : Int32) (x2 : Int32) (hw : ¬ 60 ≤ σ 0 14 → vp_in (σ 0 14) 60) (hf : f_X5_waits σ x1 x2 = X) (H : Heap) (locs : List Loc) (hG : wI D vwCl (va_A w0 s.heap.size) s.heap H locs (RW ad cI σ)) (ls : Array Slot) (hl : lv_has ls 3 [(0, .ref (ad 0)), (1, .int x1), (2, .int x2)]) : W p l e ({ frames := 0, cells := 0, slots := 0, locals := 0 } : Room) s m args below meth c H locs 0 0 (MQ below (va_Qv (fun (u : Mem) => u = X) (fun u t => wPost D vwCl w0 s.heap.size ((fun u => RW ad cI u) u) t) (va_A w0 s.heap.size)) args s 0 0 (va_A w0 s.heap.size)) (F0 m 0 ls []) := by
  have hin := in_X5_waits
  unfold f_X5_waits at hf
  refine lv_aload_n S.1 S.2.1 dX5_waits_0 rfl (lv_at hl 0 rfl) ?_
  refine M_get S hin hK hG 14 (by decide) (by decide +kernel) rfl dX5_waits_1 ?_
  refine lv_bipush (v := 60) S.1 S.2.1 dX5_waits_4 (by decide) ?_
  refine lv_icmp_ge (tgt := 39) S.1 S.2.1 dX5_waits_6 (by decide) (fun c_6 => ?_) (fun c_6 => ?_)
  · have hf := ite_p c_6 hf
    exact r_vret S hr hlocks hG _ rfl hf dX5_waits_39
  · have hf := ite_n c_6 hf
    refine lv_aload_n S.1 S.2.1 dX5_waits_9 rfl (lv_at hl 0 rfl) ?_
    refine M_get S hin hK hG 15 (by decide) (by decide +kernel) rfl dX5_waits_10 ?_
    refine lv_aload_n S.1 S.2.1 dX5_waits_13 rfl (lv_at hl 0 rfl) ?_
    refine M_get S hin hK hG 14 (by decide) (by decide +kernel) rfl dX5_waits_14 ?_
    refine lv_iload_n S.1 S.2.1 dX5_waits_17 rfl (lv_at hl 1 rfl) ?_
    refine M_ast S hK hG 16 12 60 rfl (hw c_6) (RWs_16 _ _ _ _ _) dX5_waits_18 (fun σ1 H locs e_σ1 hG => ?_)
    have hf := bnd_p e_σ1 hf
    refine lv_aload_n S.1 S.2.1 dX5_waits_19 rfl (lv_at hl 0 rfl) ?_
    refine M_get S hin hK hG 16 (by decide) (by decide +kernel) rfl dX5_waits_20 ?_
    refine lv_aload_n S.1 S.2.1 dX5_waits_23 rfl (lv_at hl 0 rfl) ?_
    refine M_get S hin hK hG 14 (v := .int (σ 0 14)) (by decide) (by decide +kernel) (by rw [e_σ1]; rfl) dX5_waits_24 ?_
    refine lv_iload_n S.1 S.2.1 dX5_waits_27 rfl (lv_at hl 2 rfl) ?_
    refine M_ast S hK hG 17 13 60 rfl (hw c_6) (RWs_17 _ _ _ _ _) dX5_waits_28 (fun σ2 H locs e_σ2 hG => ?_)
    have hf := bnd_p e_σ2 hf
    refine lv_aload_n S.1 S.2.1 dX5_waits_29 rfl (lv_at hl 0 rfl) ?_
    refine lv_dup S.1 S.2.1 dX5_waits_30 rfl ?_
    refine M_get S hin hK hG 14 (v := .int (σ 0 14)) (by decide) (by decide +kernel) (by rw [e_σ2, e_σ1]; rfl) dX5_waits_31 ?_
    refine lv_iconst (v := 1) S.1 S.2.1 dX5_waits_34 (by decide) ?_
    refine lv_iadd S.1 S.2.1 dX5_waits_35 ?_
    refine M_put S hin hK hG 14 (by decide) (by decide +kernel) rfl rfl rfl (RWp_14 _ _ _ _) dX5_waits_36 (fun σ3 H locs e_σ3 hG => ?_)
    have hf := bnd_p e_σ3 hf
    exact r_vret S hr hlocks hG _ rfl hf dX5_waits_39
theorem k_X5_waits (l : Launch) (D : va_G) (cI : ClassId) (ad : Nat → Nat) (σ : Mem) (x1 : Int32) (x2 : Int32) (hw : ¬ 60 ≤ σ 0 14 → vp_in (σ 0 14) 60) : CMv l yX5_waits wsX5_waits ({ frames := 0, cells := 0, slots := 0, locals := 0 } : Room) D vwCl [(cI, .int)] (RW ad cI σ) [.ref (ad 0), .int x1, .int x2] (fun (u : Mem) => u = (f_X5_waits σ x1 x2)) (fun u => RW ad cI u) :=
  r_met (by decide) rfl (Nat.le_of_ble_eq_true rfl) (fun p e s m args below meth c ls S hr hlocks _ hK hA hG hl => b_X5_waits_0 S hr hlocks hK hA σ x1 x2 hw rfl _ _ hG ls hl)
theorem in_X5_goRule : ∀ w ∈ wsX50, w ∈ wsX5_goRule := by decide +kernel
def f_X5_goRule (σ : Mem) (x1 : Int32) (x2 : Int32) : Mem :=
  bnd (σ 6 x2.toNatClampNeg) fun v1 =>
  (if (σ 30 x1.toNatClampNeg) = 0 then
  (if 5 ≤ (σ 5 x2.toNatClampNeg) then
  bnd (f_X5_goOn σ x1 0 v1) fun σ19 =>
  σ19
  else
  bnd (f_X5_says σ x2 v1) fun σ20 =>
  σ20)
  else
  (if (σ 30 x1.toNatClampNeg) = 2 then
  bnd (f_X5_passes σ) fun σ18 =>
  σ18
  else
  (if (σ 5 x2.toNatClampNeg) = 9 then
  (if (σ 0 35) = 0 then
  bnd (f_X5_passes σ) fun σ15 =>
  σ15
  else
  (if (σ 0 35) = 5 then
  bnd (f_X5_passes σ) fun σ16 =>
  σ16
  else
  bnd (f_X5_goOn σ x1 0 (σ 7 x2.toNatClampNeg)) fun σ17 =>
  σ17))
  else
  (if (σ 0 35) = 0 then
  (if (σ 5 x2.toNatClampNeg) = 5 then
  bnd (f_X5_ends σ (1 - (σ 0 34))) fun σ2 =>
  σ2
  else
  (if (σ 5 x2.toNatClampNeg) = 6 then
  (if (σ 5 x2.toNatClampNeg) = 6 then
  (if (σ 0 34) = 1 then
  bnd (f_X5_goOn σ x1 0 (σ 7 x2.toNatClampNeg)) fun σ6 =>
  σ6
  else
  bnd (f_X5_passes σ) fun σ5 =>
  σ5)
  else
  (if (σ 0 34) = 0 then
  bnd (f_X5_goOn σ x1 0 (σ 7 x2.toNatClampNeg)) fun σ4 =>
  σ4
  else
  bnd (f_X5_passes σ) fun σ3 =>
  σ3))
  else
  (if (σ 5 x2.toNatClampNeg) = 7 then
  (if (σ 5 x2.toNatClampNeg) = 6 then
  (if (σ 0 34) = 1 then
  bnd (f_X5_goOn σ x1 0 (σ 7 x2.toNatClampNeg)) fun σ10 =>
  σ10
  else
  bnd (f_X5_passes σ) fun σ9 =>
  σ9)
  else
  (if (σ 0 34) = 0 then
  bnd (f_X5_goOn σ x1 0 (σ 7 x2.toNatClampNeg)) fun σ8 =>
  σ8
  else
  bnd (f_X5_passes σ) fun σ7 =>
  σ7))
  else
  bnd (mset σ 9 x2.toNatClampNeg ((σ 9 x2.toNatClampNeg) + (σ 0 34))) fun σ11 =>
  (if (σ11 9 x2.toNatClampNeg) < (σ11 7 x2.toNatClampNeg) then
  bnd (f_X5_ends σ11 0) fun σ12 =>
  σ12
  else
  bnd (f_X5_ends σ11 1) fun σ13 =>
  σ13))))
  else
  bnd (f_X5_passes σ) fun σ14 =>
  σ14))))
set_option maxRecDepth 100000 in
set_option maxHeartbeats 4000000 in
theorem b_X5_goRule_0 {p : Program} {l : Launch} {e : Env} {s : State} {m : MethodId} {args : Array Value} {below : List Frame} {meth : Method} {c : Code} {D : va_G} {cI : ClassId} {ad : Nat → Nat} {w0 : va_W} {X : Mem} (S : CallFix p m c cX5_goRule 4 s args wsX5_goRule RX5) (hr : meth.sig.returnType = none) (hlocks : meth.locks = false) (hK : va_K D vwCl [(cI, .int)] s) (hA : ∀ q, s.heap.size ≤ q → va_A w0 s.heap.size q) (σ : Mem) (x1 : Int32) (x2 : Int32) (hat : vp_in x1 300) (hri : vp_in x2 40) (hs : ¬ 5 ≤ σ 5 x2.toNatClampNeg → vp_in (σ 6 x2.toNatClampNeg) 8) (hbi : σ 5 x2.toNatClampNeg = 3 → vp_in (σ 7 x2.toNatClampNeg) 8) (ht : ¬ σ 0 26 = 300 → vp_in (σ 0 25) 300) (hf : f_X5_goRule σ x1 x2 = X) (H : Heap) (locs : List Loc) (hG : wI D vwCl (va_A w0 s.heap.size) s.heap H locs (RW ad cI σ)) (ls : Array Slot) (hl : lv_has ls 4 [(0, .ref (ad 0)), (1, .int x1), (2, .int x2)]) : W p l e ({ frames := 3, cells := 0, slots := 0, locals := 68 } : Room) s m args below meth c H locs 0 0 (MQ below (va_Qv (fun (u : Mem) => u = X) (fun u t => wPost D vwCl w0 s.heap.size ((fun u => RW ad cI u) u) t) (va_A w0 s.heap.size)) args s 0 0 (va_A w0 s.heap.size)) (F0 m 0 ls []) := by
  have hin := in_X5_goRule
  unfold f_X5_goRule at hf
  refine lv_aload_n S.1 S.2.1 dX5_goRule_0 rfl (lv_at hl 0 rfl) ?_
  refine M_get S hin hK hG 5 (by decide) (by decide +kernel) rfl dX5_goRule_1 ?_
  refine lv_iload_n S.1 S.2.1 dX5_goRule_4 rfl (lv_at hl 2 rfl) ?_
  refine r_iald S hK hG 4 0 rfl rfl hri dX5_goRule_5 ?_
  refine lv_topi (fun v1 e_v1 => ?_)
  have hf := bnd_p e_v1 hf
  refine lv_istore_n (lv' := [(3, .int v1), (0, .ref (ad 0)), (1, .int x1), (2, .int x2)]) S.1 S.2.1 dX5_goRule_6 rfl hl (by decide) rfl (fun ls hl => ?_)
  refine lv_aload_n S.1 S.2.1 dX5_goRule_7 rfl (lv_at hl 1 rfl) ?_
  refine M_get S hin hK hG 29 (by decide) (by decide +kernel) rfl dX5_goRule_8 ?_
  refine lv_iload_n S.1 S.2.1 dX5_goRule_11 rfl (lv_at hl 2 rfl) ?_
  refine r_iald S hK hG 19 0 rfl rfl hat dX5_goRule_12 ?_
  refine lv_if_ne (tgt := 43) S.1 S.2.1 dX5_goRule_13 (by decide) (fun c_13 => ?_) (fun c_13 => ?_)
  · have hf := ite_n c_13 hf
    refine lv_aload_n S.1 S.2.1 dX5_goRule_43 rfl (lv_at hl 1 rfl) ?_
    refine M_get S hin hK hG 29 (by decide) (by decide +kernel) rfl dX5_goRule_44 ?_
    refine lv_iload_n S.1 S.2.1 dX5_goRule_47 rfl (lv_at hl 2 rfl) ?_
    refine r_iald S hK hG 19 0 rfl rfl hat dX5_goRule_48 ?_
    refine lv_iconst (v := 2) S.1 S.2.1 dX5_goRule_49 (by decide) ?_
    refine lv_icmp_ne (tgt := 58) S.1 S.2.1 dX5_goRule_50 (by decide) (fun c_50 => ?_) (fun c_50 => ?_)
    · have hf := ite_n c_50 hf
      refine lv_aload_n S.1 S.2.1 dX5_goRule_58 rfl (lv_at hl 1 rfl) ?_
      refine M_get S hin hK hG 4 (by decide) (by decide +kernel) rfl dX5_goRule_59 ?_
      refine lv_iload_n S.1 S.2.1 dX5_goRule_62 rfl (lv_at hl 3 rfl) ?_
      refine r_iald S hK hG 3 0 rfl rfl hri dX5_goRule_63 ?_
      refine lv_bipush (v := 9) S.1 S.2.1 dX5_goRule_64 (by decide) ?_
      refine lv_icmp_ne (tgt := 104) S.1 S.2.1 dX5_goRule_66 (by decide) (fun c_66 => ?_) (fun c_66 => ?_)
      · have hf := ite_n c_66 hf
        refine lv_aload_n S.1 S.2.1 dX5_goRule_104 rfl (lv_at hl 1 rfl) ?_
        refine M_get S hin hK hG 35 (by decide) (by decide +kernel) rfl dX5_goRule_105 ?_
        refine lv_if_eq (tgt := 116) S.1 S.2.1 dX5_goRule_108 (by decide) (fun c_108 => ?_) (fun c_108 => ?_)
        · have hf := ite_p c_108 hf
          refine lv_aload_n S.1 S.2.1 dX5_goRule_116 rfl (lv_at hl 1 rfl) ?_
          refine M_get S hin hK hG 4 (by decide) (by decide +kernel) rfl dX5_goRule_117 ?_
          refine lv_iload_n S.1 S.2.1 dX5_goRule_120 rfl (lv_at hl 3 rfl) ?_
          refine r_iald S hK hG 3 0 rfl rfl hri dX5_goRule_121 ?_
          refine (Decidable.em ((σ 5 x2.toNatClampNeg) = 5)).elim (fun c_122_5 => ?_) (fun c_122_5 => ?_)
          · have hf := ite_p c_122_5 hf
            refine lv_tableIn (off := 26) (tgt := 148) S.1 S.2.1 dX5_goRule_122 (by rw [c_122_5]; decide) (by rw [c_122_5]; decide) (by rw [c_122_5]; rfl) (by decide) ?_
            refine lv_aload_n S.1 S.2.1 dX5_goRule_148 rfl (lv_at hl 1 rfl) ?_
            refine lv_iconst (v := 1) S.1 S.2.1 dX5_goRule_149 (by decide) ?_
            refine lv_aload_n S.1 S.2.1 dX5_goRule_150 rfl (lv_at hl 1 rfl) ?_
            refine M_get S hin hK hG 34 (by decide) (by decide +kernel) rfl dX5_goRule_151 ?_
            refine lv_isub S.1 S.2.1 dX5_goRule_154 ?_
            refine r_callVv S hK hA hG (k_X5_ends l _ _ _ _ _) (cwV 1 S.2.2.2.2 gX5_goRule_X5_ends rfl rfl rfl (by decide +kernel) ⟨Nat.le_of_ble_eq_true rfl, Nat.le_of_ble_eq_true rfl⟩) (va_recv hK hG.1 (ci := 5) (q0 := 0) rfl rfl) rfl hl.1 rfl (Nat.le_of_ble_eq_true rfl) dX5_goRule_155 ⟨Nat.le_of_ble_eq_true rfl, Nat.le_of_ble_eq_true rfl⟩ (fun σ2 H locs e_σ2 hG => ?_)
            have hf := bnd_p e_σ2 hf
            refine lv_goto (tgt := 243) S.1 S.2.1 dX5_goRule_158 (by decide) ?_
            exact r_vret S hr hlocks hG _ rfl hf dX5_goRule_243
          have hf := ite_n c_122_5 hf
          refine (Decidable.em ((σ 5 x2.toNatClampNeg) = 6)).elim (fun c_122_6 => ?_) (fun c_122_6 => ?_)
          · have hf := ite_p c_122_6 hf
            refine lv_tableIn (off := 39) (tgt := 161) S.1 S.2.1 dX5_goRule_122 (by rw [c_122_6]; decide) (by rw [c_122_6]; decide) (by rw [c_122_6]; rfl) (by decide) ?_
            refine lv_aload_n S.1 S.2.1 dX5_goRule_161 rfl (lv_at hl 1 rfl) ?_
            refine M_get S hin hK hG 34 (by decide) (by decide +kernel) rfl dX5_goRule_162 ?_
            refine lv_aload_n S.1 S.2.1 dX5_goRule_165 rfl (lv_at hl 1 rfl) ?_
            refine M_get S hin hK hG 4 (by decide) (by decide +kernel) rfl dX5_goRule_166 ?_
            refine lv_iload_n S.1 S.2.1 dX5_goRule_169 rfl (lv_at hl 3 rfl) ?_
            refine r_iald S hK hG 3 0 rfl rfl hri dX5_goRule_170 ?_
            refine lv_bipush (v := 6) S.1 S.2.1 dX5_goRule_171 (by decide) ?_
            refine lv_icmp_ne (tgt := 180) S.1 S.2.1 dX5_goRule_173 (by decide) (fun c_173 => ?_) (fun c_173 => ?_)
            · have hf := ite_n c_173 hf
              refine lv_iconst (v := 0) S.1 S.2.1 dX5_goRule_180 (by decide) ?_
              refine lv_icmp_ne (tgt := 199) S.1 S.2.1 dX5_goRule_181 (by decide) (fun c_181 => ?_) (fun c_181 => ?_)
              · have hf := ite_n c_181 hf
                refine lv_aload_n S.1 S.2.1 dX5_goRule_199 rfl (lv_at hl 1 rfl) ?_
                refine r_callVv S hK hA hG (k_X5_passes l _ _ _ _) (cwV 0 S.2.2.2.2 gX5_goRule_X5_passes rfl rfl rfl (by decide +kernel) ⟨Nat.le_of_ble_eq_true rfl, Nat.le_of_ble_eq_true rfl⟩) (va_recv hK hG.1 (ci := 5) (q0 := 0) rfl rfl) rfl hl.1 rfl (Nat.le_of_ble_eq_true rfl) dX5_goRule_200 ⟨Nat.le_of_ble_eq_true rfl, Nat.le_of_ble_eq_true rfl⟩ (fun σ3 H locs e_σ3 hG => ?_)
                have hf := bnd_p e_σ3 hf
                refine lv_goto (tgt := 243) S.1 S.2.1 dX5_goRule_203 (by decide) ?_
                exact r_vret S hr hlocks hG _ rfl hf dX5_goRule_243
              · have hf := ite_p c_181 hf
                refine lv_aload_n S.1 S.2.1 dX5_goRule_184 rfl (lv_at hl 1 rfl) ?_
                refine lv_iload_n S.1 S.2.1 dX5_goRule_185 rfl (lv_at hl 2 rfl) ?_
                refine lv_iconst (v := 0) S.1 S.2.1 dX5_goRule_186 (by decide) ?_
                refine lv_aload_n S.1 S.2.1 dX5_goRule_187 rfl (lv_at hl 1 rfl) ?_
                refine M_get S hin hK hG 6 (by decide) (by decide +kernel) rfl dX5_goRule_188 ?_
                refine lv_iload_n S.1 S.2.1 dX5_goRule_191 rfl (lv_at hl 3 rfl) ?_
                refine r_iald S hK hG 5 0 rfl rfl hri dX5_goRule_192 ?_
                refine r_callVv S hK hA hG (k_X5_goOn l _ _ _ _ _ _ _ hat ht) (cwV 3 S.2.2.2.2 gX5_goRule_X5_goOn rfl rfl rfl (by decide +kernel) ⟨Nat.le_of_ble_eq_true rfl, Nat.le_of_ble_eq_true rfl⟩) (va_recv hK hG.1 (ci := 5) (q0 := 0) rfl rfl) rfl hl.1 rfl (Nat.le_of_ble_eq_true rfl) dX5_goRule_193 ⟨Nat.le_of_ble_eq_true rfl, Nat.le_of_ble_eq_true rfl⟩ (fun σ4 H locs e_σ4 hG => ?_)
                have hf := bnd_p e_σ4 hf
                refine lv_goto (tgt := 243) S.1 S.2.1 dX5_goRule_196 (by decide) ?_
                exact r_vret S hr hlocks hG _ rfl hf dX5_goRule_243
            · have hf := ite_p c_173 hf
              refine lv_iconst (v := 1) S.1 S.2.1 dX5_goRule_176 (by decide) ?_
              refine lv_goto (tgt := 181) S.1 S.2.1 dX5_goRule_177 (by decide) ?_
              refine lv_icmp_ne (tgt := 199) S.1 S.2.1 dX5_goRule_181 (by decide) (fun c_181 => ?_) (fun c_181 => ?_)
              · have hf := ite_n c_181 hf
                refine lv_aload_n S.1 S.2.1 dX5_goRule_199 rfl (lv_at hl 1 rfl) ?_
                refine r_callVv S hK hA hG (k_X5_passes l _ _ _ _) (cwV 0 S.2.2.2.2 gX5_goRule_X5_passes rfl rfl rfl (by decide +kernel) ⟨Nat.le_of_ble_eq_true rfl, Nat.le_of_ble_eq_true rfl⟩) (va_recv hK hG.1 (ci := 5) (q0 := 0) rfl rfl) rfl hl.1 rfl (Nat.le_of_ble_eq_true rfl) dX5_goRule_200 ⟨Nat.le_of_ble_eq_true rfl, Nat.le_of_ble_eq_true rfl⟩ (fun σ5 H locs e_σ5 hG => ?_)
                have hf := bnd_p e_σ5 hf
                refine lv_goto (tgt := 243) S.1 S.2.1 dX5_goRule_203 (by decide) ?_
                exact r_vret S hr hlocks hG _ rfl hf dX5_goRule_243
              · have hf := ite_p c_181 hf
                refine lv_aload_n S.1 S.2.1 dX5_goRule_184 rfl (lv_at hl 1 rfl) ?_
                refine lv_iload_n S.1 S.2.1 dX5_goRule_185 rfl (lv_at hl 2 rfl) ?_
                refine lv_iconst (v := 0) S.1 S.2.1 dX5_goRule_186 (by decide) ?_
                refine lv_aload_n S.1 S.2.1 dX5_goRule_187 rfl (lv_at hl 1 rfl) ?_
                refine M_get S hin hK hG 6 (by decide) (by decide +kernel) rfl dX5_goRule_188 ?_
                refine lv_iload_n S.1 S.2.1 dX5_goRule_191 rfl (lv_at hl 3 rfl) ?_
                refine r_iald S hK hG 5 0 rfl rfl hri dX5_goRule_192 ?_
                refine r_callVv S hK hA hG (k_X5_goOn l _ _ _ _ _ _ _ hat ht) (cwV 3 S.2.2.2.2 gX5_goRule_X5_goOn rfl rfl rfl (by decide +kernel) ⟨Nat.le_of_ble_eq_true rfl, Nat.le_of_ble_eq_true rfl⟩) (va_recv hK hG.1 (ci := 5) (q0 := 0) rfl rfl) rfl hl.1 rfl (Nat.le_of_ble_eq_true rfl) dX5_goRule_193 ⟨Nat.le_of_ble_eq_true rfl, Nat.le_of_ble_eq_true rfl⟩ (fun σ6 H locs e_σ6 hG => ?_)
                have hf := bnd_p e_σ6 hf
                refine lv_goto (tgt := 243) S.1 S.2.1 dX5_goRule_196 (by decide) ?_
                exact r_vret S hr hlocks hG _ rfl hf dX5_goRule_243
          have hf := ite_n c_122_6 hf
          refine (Decidable.em ((σ 5 x2.toNatClampNeg) = 7)).elim (fun c_122_7 => ?_) (fun c_122_7 => ?_)
          · have hf := ite_p c_122_7 hf
            refine lv_tableIn (off := 39) (tgt := 161) S.1 S.2.1 dX5_goRule_122 (by rw [c_122_7]; decide) (by rw [c_122_7]; decide) (by rw [c_122_7]; rfl) (by decide) ?_
            refine lv_aload_n S.1 S.2.1 dX5_goRule_161 rfl (lv_at hl 1 rfl) ?_
            refine M_get S hin hK hG 34 (by decide) (by decide +kernel) rfl dX5_goRule_162 ?_
            refine lv_aload_n S.1 S.2.1 dX5_goRule_165 rfl (lv_at hl 1 rfl) ?_
            refine M_get S hin hK hG 4 (by decide) (by decide +kernel) rfl dX5_goRule_166 ?_
            refine lv_iload_n S.1 S.2.1 dX5_goRule_169 rfl (lv_at hl 3 rfl) ?_
            refine r_iald S hK hG 3 0 rfl rfl hri dX5_goRule_170 ?_
            refine lv_bipush (v := 6) S.1 S.2.1 dX5_goRule_171 (by decide) ?_
            refine lv_icmp_ne (tgt := 180) S.1 S.2.1 dX5_goRule_173 (by decide) (fun c_173 => ?_) (fun c_173 => ?_)
            · have hf := ite_n c_173 hf
              refine lv_iconst (v := 0) S.1 S.2.1 dX5_goRule_180 (by decide) ?_
              refine lv_icmp_ne (tgt := 199) S.1 S.2.1 dX5_goRule_181 (by decide) (fun c_181 => ?_) (fun c_181 => ?_)
              · have hf := ite_n c_181 hf
                refine lv_aload_n S.1 S.2.1 dX5_goRule_199 rfl (lv_at hl 1 rfl) ?_
                refine r_callVv S hK hA hG (k_X5_passes l _ _ _ _) (cwV 0 S.2.2.2.2 gX5_goRule_X5_passes rfl rfl rfl (by decide +kernel) ⟨Nat.le_of_ble_eq_true rfl, Nat.le_of_ble_eq_true rfl⟩) (va_recv hK hG.1 (ci := 5) (q0 := 0) rfl rfl) rfl hl.1 rfl (Nat.le_of_ble_eq_true rfl) dX5_goRule_200 ⟨Nat.le_of_ble_eq_true rfl, Nat.le_of_ble_eq_true rfl⟩ (fun σ7 H locs e_σ7 hG => ?_)
                have hf := bnd_p e_σ7 hf
                refine lv_goto (tgt := 243) S.1 S.2.1 dX5_goRule_203 (by decide) ?_
                exact r_vret S hr hlocks hG _ rfl hf dX5_goRule_243
              · have hf := ite_p c_181 hf
                refine lv_aload_n S.1 S.2.1 dX5_goRule_184 rfl (lv_at hl 1 rfl) ?_
                refine lv_iload_n S.1 S.2.1 dX5_goRule_185 rfl (lv_at hl 2 rfl) ?_
                refine lv_iconst (v := 0) S.1 S.2.1 dX5_goRule_186 (by decide) ?_
                refine lv_aload_n S.1 S.2.1 dX5_goRule_187 rfl (lv_at hl 1 rfl) ?_
                refine M_get S hin hK hG 6 (by decide) (by decide +kernel) rfl dX5_goRule_188 ?_
                refine lv_iload_n S.1 S.2.1 dX5_goRule_191 rfl (lv_at hl 3 rfl) ?_
                refine r_iald S hK hG 5 0 rfl rfl hri dX5_goRule_192 ?_
                refine r_callVv S hK hA hG (k_X5_goOn l _ _ _ _ _ _ _ hat ht) (cwV 3 S.2.2.2.2 gX5_goRule_X5_goOn rfl rfl rfl (by decide +kernel) ⟨Nat.le_of_ble_eq_true rfl, Nat.le_of_ble_eq_true rfl⟩) (va_recv hK hG.1 (ci := 5) (q0 := 0) rfl rfl) rfl hl.1 rfl (Nat.le_of_ble_eq_true rfl) dX5_goRule_193 ⟨Nat.le_of_ble_eq_true rfl, Nat.le_of_ble_eq_true rfl⟩ (fun σ8 H locs e_σ8 hG => ?_)
                have hf := bnd_p e_σ8 hf
                refine lv_goto (tgt := 243) S.1 S.2.1 dX5_goRule_196 (by decide) ?_
                exact r_vret S hr hlocks hG _ rfl hf dX5_goRule_243
            · have hf := ite_p c_173 hf
              refine lv_iconst (v := 1) S.1 S.2.1 dX5_goRule_176 (by decide) ?_
              refine lv_goto (tgt := 181) S.1 S.2.1 dX5_goRule_177 (by decide) ?_
              refine lv_icmp_ne (tgt := 199) S.1 S.2.1 dX5_goRule_181 (by decide) (fun c_181 => ?_) (fun c_181 => ?_)
              · have hf := ite_n c_181 hf
                refine lv_aload_n S.1 S.2.1 dX5_goRule_199 rfl (lv_at hl 1 rfl) ?_
                refine r_callVv S hK hA hG (k_X5_passes l _ _ _ _) (cwV 0 S.2.2.2.2 gX5_goRule_X5_passes rfl rfl rfl (by decide +kernel) ⟨Nat.le_of_ble_eq_true rfl, Nat.le_of_ble_eq_true rfl⟩) (va_recv hK hG.1 (ci := 5) (q0 := 0) rfl rfl) rfl hl.1 rfl (Nat.le_of_ble_eq_true rfl) dX5_goRule_200 ⟨Nat.le_of_ble_eq_true rfl, Nat.le_of_ble_eq_true rfl⟩ (fun σ9 H locs e_σ9 hG => ?_)
                have hf := bnd_p e_σ9 hf
                refine lv_goto (tgt := 243) S.1 S.2.1 dX5_goRule_203 (by decide) ?_
                exact r_vret S hr hlocks hG _ rfl hf dX5_goRule_243
              · have hf := ite_p c_181 hf
                refine lv_aload_n S.1 S.2.1 dX5_goRule_184 rfl (lv_at hl 1 rfl) ?_
                refine lv_iload_n S.1 S.2.1 dX5_goRule_185 rfl (lv_at hl 2 rfl) ?_
                refine lv_iconst (v := 0) S.1 S.2.1 dX5_goRule_186 (by decide) ?_
                refine lv_aload_n S.1 S.2.1 dX5_goRule_187 rfl (lv_at hl 1 rfl) ?_
                refine M_get S hin hK hG 6 (by decide) (by decide +kernel) rfl dX5_goRule_188 ?_
                refine lv_iload_n S.1 S.2.1 dX5_goRule_191 rfl (lv_at hl 3 rfl) ?_
                refine r_iald S hK hG 5 0 rfl rfl hri dX5_goRule_192 ?_
                refine r_callVv S hK hA hG (k_X5_goOn l _ _ _ _ _ _ _ hat ht) (cwV 3 S.2.2.2.2 gX5_goRule_X5_goOn rfl rfl rfl (by decide +kernel) ⟨Nat.le_of_ble_eq_true rfl, Nat.le_of_ble_eq_true rfl⟩) (va_recv hK hG.1 (ci := 5) (q0 := 0) rfl rfl) rfl hl.1 rfl (Nat.le_of_ble_eq_true rfl) dX5_goRule_193 ⟨Nat.le_of_ble_eq_true rfl, Nat.le_of_ble_eq_true rfl⟩ (fun σ10 H locs e_σ10 hG => ?_)
                have hf := bnd_p e_σ10 hf
                refine lv_goto (tgt := 243) S.1 S.2.1 dX5_goRule_196 (by decide) ?_
                exact r_vret S hr hlocks hG _ rfl hf dX5_goRule_243
          have hf := ite_n c_122_7 hf
          refine lv_tableOut (tgt := 206) S.1 S.2.1 dX5_goRule_122 (by have h0 := sw_ne (z := 5) rfl c_122_5; have h1 := sw_ne (z := 6) rfl c_122_6; have h2 := sw_ne (z := 7) rfl c_122_7; omega) (by decide) ?_
          refine lv_aload_n S.1 S.2.1 dX5_goRule_206 rfl (lv_at hl 1 rfl) ?_
          refine M_get S hin hK hG 8 (by decide) (by decide +kernel) rfl dX5_goRule_207 ?_
          refine lv_iload_n S.1 S.2.1 dX5_goRule_210 rfl (lv_at hl 3 rfl) ?_
          refine lv_dup2_11 S.1 S.2.1 dX5_goRule_211 rfl rfl ?_
          refine r_iald S hK hG 7 0 rfl rfl hri dX5_goRule_212 ?_
          refine lv_aload_n S.1 S.2.1 dX5_goRule_213 rfl (lv_at hl 1 rfl) ?_
          refine M_get S hin hK hG 34 (by decide) (by decide +kernel) rfl dX5_goRule_214 ?_
          refine lv_iadd S.1 S.2.1 dX5_goRule_217 ?_
          refine M_ast S hK hG 9 7 40 rfl hri (RWs_9 _ _ _ _ _) dX5_goRule_218 (fun σ11 H locs e_σ11 hG => ?_)
          have hf := bnd_p e_σ11 hf
          refine lv_aload_n S.1 S.2.1 dX5_goRule_219 rfl (lv_at hl 1 rfl) ?_
          refine lv_aload_n S.1 S.2.1 dX5_goRule_220 rfl (lv_at hl 1 rfl) ?_
          refine M_get S hin hK hG 8 (by decide) (by decide +kernel) rfl dX5_goRule_221 ?_
          refine lv_iload_n S.1 S.2.1 dX5_goRule_224 rfl (lv_at hl 3 rfl) ?_
          refine r_iald S hK hG 7 0 rfl rfl hri dX5_goRule_225 ?_
          refine lv_aload_n S.1 S.2.1 dX5_goRule_226 rfl (lv_at hl 1 rfl) ?_
          refine M_get S hin hK hG 6 (by decide) (by decide +kernel) rfl dX5_goRule_227 ?_
          refine lv_iload_n S.1 S.2.1 dX5_goRule_230 rfl (lv_at hl 3 rfl) ?_
          refine r_iald S hK hG 5 0 rfl rfl hri dX5_goRule_231 ?_
          refine lv_icmp_lt (tgt := 239) S.1 S.2.1 dX5_goRule_232 (by decide) (fun c_232 => ?_) (fun c_232 => ?_)
          · have hf := ite_p c_232 hf
            refine lv_iconst (v := 0) S.1 S.2.1 dX5_goRule_239 (by decide) ?_
            refine r_callVv S hK hA hG (k_X5_ends l _ _ _ _ _) (cwV 1 S.2.2.2.2 gX5_goRule_X5_ends rfl rfl rfl (by decide +kernel) ⟨Nat.le_of_ble_eq_true rfl, Nat.le_of_ble_eq_true rfl⟩) (va_recv hK hG.1 (ci := 5) (q0 := 0) rfl rfl) rfl hl.1 rfl (Nat.le_of_ble_eq_true rfl) dX5_goRule_240 ⟨Nat.le_of_ble_eq_true rfl, Nat.le_of_ble_eq_true rfl⟩ (fun σ12 H locs e_σ12 hG => ?_)
            have hf := bnd_p e_σ12 hf
            exact r_vret S hr hlocks hG _ rfl hf dX5_goRule_243
          · have hf := ite_n c_232 hf
            refine lv_iconst (v := 1) S.1 S.2.1 dX5_goRule_235 (by decide) ?_
            refine lv_goto (tgt := 240) S.1 S.2.1 dX5_goRule_236 (by decide) ?_
            refine r_callVv S hK hA hG (k_X5_ends l _ _ _ _ _) (cwV 1 S.2.2.2.2 gX5_goRule_X5_ends rfl rfl rfl (by decide +kernel) ⟨Nat.le_of_ble_eq_true rfl, Nat.le_of_ble_eq_true rfl⟩) (va_recv hK hG.1 (ci := 5) (q0 := 0) rfl rfl) rfl hl.1 rfl (Nat.le_of_ble_eq_true rfl) dX5_goRule_240 ⟨Nat.le_of_ble_eq_true rfl, Nat.le_of_ble_eq_true rfl⟩ (fun σ13 H locs e_σ13 hG => ?_)
            have hf := bnd_p e_σ13 hf
            exact r_vret S hr hlocks hG _ rfl hf dX5_goRule_243
        · have hf := ite_n c_108 hf
          refine lv_aload_n S.1 S.2.1 dX5_goRule_111 rfl (lv_at hl 1 rfl) ?_
          refine r_callVv S hK hA hG (k_X5_passes l _ _ _ _) (cwV 0 S.2.2.2.2 gX5_goRule_X5_passes rfl rfl rfl (by decide +kernel) ⟨Nat.le_of_ble_eq_true rfl, Nat.le_of_ble_eq_true rfl⟩) (va_recv hK hG.1 (ci := 5) (q0 := 0) rfl rfl) rfl hl.1 rfl (Nat.le_of_ble_eq_true rfl) dX5_goRule_112 ⟨Nat.le_of_ble_eq_true rfl, Nat.le_of_ble_eq_true rfl⟩ (fun σ14 H locs e_σ14 hG => ?_)
          have hf := bnd_p e_σ14 hf
          exact r_vret S hr hlocks hG _ rfl hf dX5_goRule_115
      · have hf := ite_p c_66 hf
        refine lv_aload_n S.1 S.2.1 dX5_goRule_69 rfl (lv_at hl 1 rfl) ?_
        refine M_get S hin hK hG 35 (by decide) (by decide +kernel) rfl dX5_goRule_70 ?_
        refine lv_if_eq (tgt := 99) S.1 S.2.1 dX5_goRule_73 (by decide) (fun c_73 => ?_) (fun c_73 => ?_)
        · have hf := ite_p c_73 hf
          refine lv_aload_n S.1 S.2.1 dX5_goRule_99 rfl (lv_at hl 1 rfl) ?_
          refine r_callVv S hK hA hG (k_X5_passes l _ _ _ _) (cwV 0 S.2.2.2.2 gX5_goRule_X5_passes rfl rfl rfl (by decide +kernel) ⟨Nat.le_of_ble_eq_true rfl, Nat.le_of_ble_eq_true rfl⟩) (va_recv hK hG.1 (ci := 5) (q0 := 0) rfl rfl) rfl hl.1 rfl (Nat.le_of_ble_eq_true rfl) dX5_goRule_100 ⟨Nat.le_of_ble_eq_true rfl, Nat.le_of_ble_eq_true rfl⟩ (fun σ15 H locs e_σ15 hG => ?_)
          have hf := bnd_p e_σ15 hf
          exact r_vret S hr hlocks hG _ rfl hf dX5_goRule_103
        · have hf := ite_n c_73 hf
          refine lv_aload_n S.1 S.2.1 dX5_goRule_76 rfl (lv_at hl 1 rfl) ?_
          refine M_get S hin hK hG 35 (by decide) (by decide +kernel) rfl dX5_goRule_77 ?_
          refine lv_iconst (v := 5) S.1 S.2.1 dX5_goRule_80 (by decide) ?_
          refine lv_icmp_eq (tgt := 99) S.1 S.2.1 dX5_goRule_81 (by decide) (fun c_81 => ?_) (fun c_81 => ?_)
          · have hf := ite_p c_81 hf
            refine lv_aload_n S.1 S.2.1 dX5_goRule_99 rfl (lv_at hl 1 rfl) ?_
            refine r_callVv S hK hA hG (k_X5_passes l _ _ _ _) (cwV 0 S.2.2.2.2 gX5_goRule_X5_passes rfl rfl rfl (by decide +kernel) ⟨Nat.le_of_ble_eq_true rfl, Nat.le_of_ble_eq_true rfl⟩) (va_recv hK hG.1 (ci := 5) (q0 := 0) rfl rfl) rfl hl.1 rfl (Nat.le_of_ble_eq_true rfl) dX5_goRule_100 ⟨Nat.le_of_ble_eq_true rfl, Nat.le_of_ble_eq_true rfl⟩ (fun σ16 H locs e_σ16 hG => ?_)
            have hf := bnd_p e_σ16 hf
            exact r_vret S hr hlocks hG _ rfl hf dX5_goRule_103
          · have hf := ite_n c_81 hf
            refine lv_aload_n S.1 S.2.1 dX5_goRule_84 rfl (lv_at hl 1 rfl) ?_
            refine lv_iload_n S.1 S.2.1 dX5_goRule_85 rfl (lv_at hl 2 rfl) ?_
            refine lv_iconst (v := 0) S.1 S.2.1 dX5_goRule_86 (by decide) ?_
            refine lv_aload_n S.1 S.2.1 dX5_goRule_87 rfl (lv_at hl 1 rfl) ?_
            refine M_get S hin hK hG 6 (by decide) (by decide +kernel) rfl dX5_goRule_88 ?_
            refine lv_iload_n S.1 S.2.1 dX5_goRule_91 rfl (lv_at hl 3 rfl) ?_
            refine r_iald S hK hG 5 0 rfl rfl hri dX5_goRule_92 ?_
            refine r_callVv S hK hA hG (k_X5_goOn l _ _ _ _ _ _ _ hat ht) (cwV 3 S.2.2.2.2 gX5_goRule_X5_goOn rfl rfl rfl (by decide +kernel) ⟨Nat.le_of_ble_eq_true rfl, Nat.le_of_ble_eq_true rfl⟩) (va_recv hK hG.1 (ci := 5) (q0 := 0) rfl rfl) rfl hl.1 rfl (Nat.le_of_ble_eq_true rfl) dX5_goRule_93 ⟨Nat.le_of_ble_eq_true rfl, Nat.le_of_ble_eq_true rfl⟩ (fun σ17 H locs e_σ17 hG => ?_)
            have hf := bnd_p e_σ17 hf
            refine lv_goto (tgt := 103) S.1 S.2.1 dX5_goRule_96 (by decide) ?_
            exact r_vret S hr hlocks hG _ rfl hf dX5_goRule_103
    · have hf := ite_p c_50 hf
      refine lv_aload_n S.1 S.2.1 dX5_goRule_53 rfl (lv_at hl 1 rfl) ?_
      refine r_callVv S hK hA hG (k_X5_passes l _ _ _ _) (cwV 0 S.2.2.2.2 gX5_goRule_X5_passes rfl rfl rfl (by decide +kernel) ⟨Nat.le_of_ble_eq_true rfl, Nat.le_of_ble_eq_true rfl⟩) (va_recv hK hG.1 (ci := 5) (q0 := 0) rfl rfl) rfl hl.1 rfl (Nat.le_of_ble_eq_true rfl) dX5_goRule_54 ⟨Nat.le_of_ble_eq_true rfl, Nat.le_of_ble_eq_true rfl⟩ (fun σ18 H locs e_σ18 hG => ?_)
      have hf := bnd_p e_σ18 hf
      exact r_vret S hr hlocks hG _ rfl hf dX5_goRule_57
  · have hf := ite_p c_13 hf
    refine lv_aload_n S.1 S.2.1 dX5_goRule_16 rfl (lv_at hl 1 rfl) ?_
    refine M_get S hin hK hG 4 (by decide) (by decide +kernel) rfl dX5_goRule_17 ?_
    refine lv_iload_n S.1 S.2.1 dX5_goRule_20 rfl (lv_at hl 3 rfl) ?_
    refine r_iald S hK hG 3 0 rfl rfl hri dX5_goRule_21 ?_
    refine lv_iconst (v := 5) S.1 S.2.1 dX5_goRule_22 (by decide) ?_
    refine lv_icmp_ge (tgt := 35) S.1 S.2.1 dX5_goRule_23 (by decide) (fun c_23 => ?_) (fun c_23 => ?_)
    · have hf := ite_p c_23 hf
      refine lv_aload_n S.1 S.2.1 dX5_goRule_35 rfl (lv_at hl 1 rfl) ?_
      refine lv_iload_n S.1 S.2.1 dX5_goRule_36 rfl (lv_at hl 2 rfl) ?_
      refine lv_iconst (v := 0) S.1 S.2.1 dX5_goRule_37 (by decide) ?_
      refine lv_iload_n S.1 S.2.1 dX5_goRule_38 rfl (lv_at hl 0 rfl) ?_
      refine r_callVv S hK hA hG (k_X5_goOn l _ _ _ _ _ _ _ hat ht) (cwV 3 S.2.2.2.2 gX5_goRule_X5_goOn rfl rfl rfl (by decide +kernel) ⟨Nat.le_of_ble_eq_true rfl, Nat.le_of_ble_eq_true rfl⟩) (va_recv hK hG.1 (ci := 5) (q0 := 0) rfl rfl) rfl hl.1 rfl (Nat.le_of_ble_eq_true rfl) dX5_goRule_39 ⟨Nat.le_of_ble_eq_true rfl, Nat.le_of_ble_eq_true rfl⟩ (fun σ19 H locs e_σ19 hG => ?_)
      have hf := bnd_p e_σ19 hf
      exact r_vret S hr hlocks hG _ rfl hf dX5_goRule_42
    · have hf := ite_n c_23 hf
      refine lv_aload_n S.1 S.2.1 dX5_goRule_26 rfl (lv_at hl 1 rfl) ?_
      refine lv_iload_n S.1 S.2.1 dX5_goRule_27 rfl (lv_at hl 3 rfl) ?_
      refine lv_iload_n S.1 S.2.1 dX5_goRule_28 rfl (lv_at hl 0 rfl) ?_
      refine r_callVv S hK hA hG (k_X5_says l _ _ _ _ _ _ hri (by rw [e_v1]; exact hs c_23) hbi) (cwV 2 S.2.2.2.2 gX5_goRule_X5_says rfl rfl rfl (by decide +kernel) ⟨Nat.le_of_ble_eq_true rfl, Nat.le_of_ble_eq_true rfl⟩) (va_recv hK hG.1 (ci := 5) (q0 := 0) rfl rfl) rfl hl.1 rfl (Nat.le_of_ble_eq_true rfl) dX5_goRule_29 ⟨Nat.le_of_ble_eq_true rfl, Nat.le_of_ble_eq_true rfl⟩ (fun σ20 H locs e_σ20 hG => ?_)
      have hf := bnd_p e_σ20 hf
      refine lv_goto (tgt := 42) S.1 S.2.1 dX5_goRule_32 (by decide) ?_
      exact r_vret S hr hlocks hG _ rfl hf dX5_goRule_42
theorem k_X5_goRule (l : Launch) (D : va_G) (cI : ClassId) (ad : Nat → Nat) (σ : Mem) (x1 : Int32) (x2 : Int32) (hat : vp_in x1 300) (hri : vp_in x2 40) (hs : ¬ 5 ≤ σ 5 x2.toNatClampNeg → vp_in (σ 6 x2.toNatClampNeg) 8) (hbi : σ 5 x2.toNatClampNeg = 3 → vp_in (σ 7 x2.toNatClampNeg) 8) (ht : ¬ σ 0 26 = 300 → vp_in (σ 0 25) 300) : CMv l yX5_goRule wsX5_goRule ({ frames := 3, cells := 0, slots := 0, locals := 68 } : Room) D vwCl [(cI, .int)] (RW ad cI σ) [.ref (ad 0), .int x1, .int x2] (fun (u : Mem) => u = (f_X5_goRule σ x1 x2)) (fun u => RW ad cI u) :=
  r_met (by decide) rfl (Nat.le_of_ble_eq_true rfl) (fun p e s m args below meth c ls S hr hlocks _ hK hA hG hl => b_X5_goRule_0 S hr hlocks hK hA σ x1 x2 hat hri hs hbi ht rfl _ _ hG ls hl)
end
section
theorem in_X5_begins : ∀ w ∈ wsX50, w ∈ wsX5_begins := by decide +kernel
def f_X5_begins_238 : Nat → Mem → Int32 → Int32 → Int32 → Int32 → Mem
  | 0, σ, _, _, _, _ => σ
  | n + 1, σ, x1, x2, a, t =>
  (if 6 ≤ t then
  bnd (f_X5_goOn σ x1 1 a) fun σ1 =>
  σ1
  else
  bnd (mset σ 33 ((6 * x1) + t).toNatClampNeg (σ 2 t.toNatClampNeg)) fun σ2 =>
  bnd (t + 1) fun v3 =>
  f_X5_begins_238 n σ2 x1 x2 a v3)
set_option maxRecDepth 100000 in
set_option maxHeartbeats 4000000 in
theorem b_X5_begins_238 {p : Program} {l : Launch} {e : Env} {s : State} {m : MethodId} {args : Array Value} {below : List Frame} {meth : Method} {c : Code} {D : va_G} {cI : ClassId} {ad : Nat → Nat} {w0 : va_W} {X : Mem} (S : CallFix p m c cX5_begins 7 s args wsX5_begins RX5) (hr : meth.sig.returnType = none) (hlocks : meth.locks = false) (hK : va_K D vwCl [(cI, .int)] s) (hA : ∀ q, s.heap.size ≤ q → va_A w0 s.heap.size q) : ∀ (n : Nat) (σ : Mem) (x1 : Int32) (x2 : Int32) (a : Int32) (t : Int32) (hat : vp_in x1 300) (ht : ¬ σ 0 26 = 300 → vp_in (σ 0 25) 300) (hi : ∃ k : Nat, t = nI k ∧ k ≤ 6 ∧ 7 ≤ k + n), f_X5_begins_238 n σ x1 x2 a t = X → ∀ (H : Heap) (locs : List Loc), wI D vwCl (va_A w0 s.heap.size) s.heap H locs (RW ad cI σ) → ∀ (ls : Array Slot), lv_has ls 7 [(0, .ref (ad 0)), (1, .int x1), (2, .int x2), (3, .int a), (6, .int t)] → W p l e ({ frames := 2, cells := 0, slots := 0, locals := 45 } : Room) s m args below meth c H locs 0 0 (MQ below (va_Qv (fun (u : Mem) => u = X) (fun u t => wPost D vwCl w0 s.heap.size ((fun u => RW ad cI u) u) t) (va_A w0 s.heap.size)) args s 0 0 (va_A w0 s.heap.size)) (F0 m 238 ls []) := by
  have hin := in_X5_begins
  intro n
  induction n with
  | zero =>
    intro σ x1 x2 a t hat ht hi
    exact (by obtain ⟨k, -, h1, h2⟩ := hi; omega)
  | succ n ih =>
    intro σ x1 x2 a t hat ht hi hf H locs hG ls hl
    unfold f_X5_begins_238 at hf
    refine lv_iload S.1 S.2.1 dX5_begins_238 (lv_at hl 4 rfl) ?_
    refine lv_bipush (v := 6) S.1 S.2.1 dX5_begins_240 (by decide) ?_
    refine lv_icmp_ge (tgt := 270) S.1 S.2.1 dX5_begins_242 (by decide) (fun c_242 => ?_) (fun c_242 => ?_)
    · have hf := ite_p c_242 hf
      refine lv_aload_n S.1 S.2.1 dX5_begins_270 rfl (lv_at hl 0 rfl) ?_
      refine lv_iload_n S.1 S.2.1 dX5_begins_271 rfl (lv_at hl 1 rfl) ?_
      refine lv_iconst (v := 1) S.1 S.2.1 dX5_begins_272 (by decide) ?_
      refine lv_iload_n S.1 S.2.1 dX5_begins_273 rfl (lv_at hl 3 rfl) ?_
      refine r_callVv S hK hA hG (k_X5_goOn l _ _ _ _ _ _ _ hat ht) (cwV 3 S.2.2.2.2 gX5_begins_X5_goOn rfl rfl rfl (by decide +kernel) ⟨Nat.le_of_ble_eq_true rfl, Nat.le_of_ble_eq_true rfl⟩) (va_recv hK hG.1 (ci := 5) (q0 := 0) rfl rfl) rfl hl.1 rfl (Nat.le_of_ble_eq_true rfl) dX5_begins_274 ⟨Nat.le_of_ble_eq_true rfl, Nat.le_of_ble_eq_true rfl⟩ (fun σ1 H locs e_σ1 hG => ?_)
      have hf := bnd_p e_σ1 hf
      refine lv_goto (tgt := 381) S.1 S.2.1 dX5_begins_277 (by decide) ?_
      exact r_vret S hr hlocks hG _ rfl hf dX5_begins_381
    · have hf := ite_n c_242 hf
      refine lv_aload_n S.1 S.2.1 dX5_begins_245 rfl (lv_at hl 0 rfl) ?_
      refine M_get S hin hK hG 32 (by decide) (by decide +kernel) rfl dX5_begins_246 ?_
      refine lv_bipush (v := 6) S.1 S.2.1 dX5_begins_249 (by decide) ?_
      refine lv_iload_n S.1 S.2.1 dX5_begins_251 rfl (lv_at hl 1 rfl) ?_
      refine lv_imul S.1 S.2.1 dX5_begins_252 ?_
      refine lv_iload S.1 S.2.1 dX5_begins_253 (lv_at hl 4 rfl) ?_
      refine lv_iadd S.1 S.2.1 dX5_begins_255 ?_
      refine lv_aload_n S.1 S.2.1 dX5_begins_256 rfl (lv_at hl 0 rfl) ?_
      refine M_get S hin hK hG 1 (by decide) (by decide +kernel) rfl dX5_begins_257 ?_
      refine lv_iload S.1 S.2.1 dX5_begins_260 (lv_at hl 4 rfl) ?_
      refine r_iald S hK hG 2 0 rfl rfl (ri_t6 hi c_242) dX5_begins_262 ?_
      refine M_ast S hK hG 33 22 1800 rfl (ri_sav hat hi c_242) (RWs_33 _ _ _ _ _) dX5_begins_263 (fun σ2 H locs e_σ2 hG => ?_)
      have hf := bnd_p e_σ2 hf
      obtain ⟨v3, e_v3⟩ : ∃ z : Int32, z = t + 1 := ⟨_, rfl⟩
      have hf := bnd_p e_v3 hf
      refine lv_iinc (v := v3) (lv' := [(6, .int v3), (0, .ref (ad 0)), (1, .int x1), (2, .int x2), (3, .int a)]) S.1 S.2.1 dX5_begins_264 hl (k := 4) rfl (by rw [e_v3]; rfl) (by decide) rfl (fun ls hl => ?_)
      refine lv_goto (tgt := 238) S.1 S.2.1 dX5_begins_267 (by decide) ?_
      exact ih σ2 x1 x2 a v3 (hat) (by rw [e_σ2]; exact ht) (ri_loop hi c_242 e_v3) hf H locs hG ls (lv_sub hl [1, 2, 3, 4, 0] rfl)
def f_X5_begins (σ : Mem) (x1 : Int32) (x2 : Int32) : Mem :=
  bnd (σ 12 x2.toNatClampNeg) fun v1 =>
  bnd (σ 13 x2.toNatClampNeg) fun v2 =>
  bnd (σ 14 x2.toNatClampNeg) fun v3 =>
  bnd (mset σ 31 x1.toNatClampNeg 0) fun σ4 =>
  bnd (mset σ4 32 x1.toNatClampNeg 0) fun σ5 =>
  (if (σ5 11 x2.toNatClampNeg) = 0 then
  (if v2 ≤ (σ5 2 v1.toNatClampNeg) then
  bnd (mset σ5 2 v1.toNatClampNeg ((σ5 2 v1.toNatClampNeg) - v2)) fun σ6 =>
  bnd (f_X5_ends σ6 v2) fun σ7 =>
  σ7
  else
  bnd (f_X5_fails σ5 3) fun σ8 =>
  σ8)
  else
  (if (σ5 11 x2.toNatClampNeg) = 1 then
  (if v3 ≤ (σ5 2 v1.toNatClampNeg) then
  bnd (mset σ5 2 v1.toNatClampNeg ((σ5 2 v1.toNatClampNeg) - v3)) fun σ9 =>
  bnd (mset σ9 2 v2.toNatClampNeg ((σ9 2 v2.toNatClampNeg) + v3)) fun σ10 =>
  bnd (f_X5_ends σ10 v3) fun σ11 =>
  σ11
  else
  bnd (f_X5_fails σ5 3) fun σ12 =>
  σ12)
  else
  (if (σ5 11 x2.toNatClampNeg) = 2 then
  bnd (f_X5_goOn σ5 x1 0 v1) fun σ13 =>
  σ13
  else
  (if (σ5 11 x2.toNatClampNeg) = 3 then
  bnd (f_X5_goOn σ5 x1 1 v1) fun σ14 =>
  σ14
  else
  (if (σ5 11 x2.toNatClampNeg) = 4 then
  (if v2 = 0 then
  bnd (f_X5_ends σ5 0) fun σ16 =>
  σ16
  else
  bnd (f_X5_goOn σ5 x1 1 v1) fun σ15 =>
  σ15)
  else
  (if (σ5 11 x2.toNatClampNeg) = 5 then
  bnd (f_X5_waits σ5 v1 ((σ5 0 2) + v2)) fun σ17 =>
  bnd (f_X5_ends σ17 0) fun σ18 =>
  σ18
  else
  (if (σ5 11 x2.toNatClampNeg) = 6 then
  f_X5_begins_238 7 σ5 x1 x2 v1 0
  else
  (if (σ5 11 x2.toNatClampNeg) = 7 then
  (if 0 ≤ v1 then
  bnd (f_X5_goOn σ5 x1 1 v1) fun σ19 =>
  σ19
  else
  (if (σ5 0 26) = 300 then
  bnd (mset σ5 0 26 ((σ5 0 26) + 0)) fun σ22 =>
  bnd (f_X5_fails σ22 5) fun σ23 =>
  σ23
  else
  bnd (mset σ5 0 26 ((σ5 0 26) + 1)) fun σ20 =>
  bnd (f_X5_fails σ20 4) fun σ21 =>
  σ21))
  else
  (if (σ5 11 x2.toNatClampNeg) = 8 then
  bnd (mset σ5 1 v1.toNatClampNeg (σ5 2 v2.toNatClampNeg)) fun σ24 =>
  bnd (f_X5_ends σ24 (σ24 2 v2.toNatClampNeg)) fun σ25 =>
  σ25
  else
  bnd (f_X5_goOn σ5 x1 1 v1) fun σ26 =>
  σ26)))))))))
set_option maxRecDepth 100000 in
set_option maxHeartbeats 4000000 in
theorem b_X5_begins_0 {p : Program} {l : Launch} {e : Env} {s : State} {m : MethodId} {args : Array Value} {below : List Frame} {meth : Method} {c : Code} {D : va_G} {cI : ClassId} {ad : Nat → Nat} {w0 : va_W} {X : Mem} (S : CallFix p m c cX5_begins 7 s args wsX5_begins RX5) (hr : meth.sig.returnType = none) (hlocks : meth.locks = false) (hK : va_K D vwCl [(cI, .int)] s) (hA : ∀ q, s.heap.size ≤ q → va_A w0 s.heap.size q) (σ : Mem) (x1 : Int32) (x2 : Int32) (hat : vp_in x1 300) (hxi : vp_in x2 40) (k0 : σ 11 x2.toNatClampNeg = 0 → vp_in (σ 12 x2.toNatClampNeg) 6) (k1 : σ 11 x2.toNatClampNeg = 1 → vp_in (σ 12 x2.toNatClampNeg) 6 ∧ vp_in (σ 13 x2.toNatClampNeg) 6) (k8 : σ 11 x2.toNatClampNeg = 8 → vp_in (σ 12 x2.toNatClampNeg) 8 ∧ vp_in (σ 13 x2.toNatClampNeg) 6) (ht : ¬ σ 0 26 = 300 → vp_in (σ 0 25) 300) (hw : ¬ 60 ≤ σ 0 14 → vp_in (σ 0 14) 60) (hf : f_X5_begins σ x1 x2 = X) (H : Heap) (locs : List Loc) (hG : wI D vwCl (va_A w0 s.heap.size) s.heap H locs (RW ad cI σ)) (ls : Array Slot) (hl : lv_has ls 7 [(0, .ref (ad 0)), (1, .int x1), (2, .int x2)]) : W p l e ({ frames := 2, cells := 0, slots := 0, locals := 45 } : Room) s m args below meth c H locs 0 0 (MQ below (va_Qv (fun (u : Mem) => u = X) (fun u t => wPost D vwCl w0 s.heap.size ((fun u => RW ad cI u) u) t) (va_A w0 s.heap.size)) args s 0 0 (va_A w0 s.heap.size)) (F0 m 0 ls []) := by
  have hin := in_X5_begins
  unfold f_X5_begins at hf
  refine lv_aload_n S.1 S.2.1 dX5_begins_0 rfl (lv_at hl 0 rfl) ?_
  refine M_get S hin hK hG 11 (by decide) (by decide +kernel) rfl dX5_begins_1 ?_
  refine lv_iload_n S.1 S.2.1 dX5_begins_4 rfl (lv_at hl 2 rfl) ?_
  refine r_iald S hK hG 9 0 rfl rfl hxi dX5_begins_5 ?_
  refine lv_topi (fun v1 e_v1 => ?_)
  have hf := bnd_p e_v1 hf
  refine lv_istore_n (lv' := [(3, .int v1), (0, .ref (ad 0)), (1, .int x1), (2, .int x2)]) S.1 S.2.1 dX5_begins_6 rfl hl (by decide) rfl (fun ls hl => ?_)
  refine lv_aload_n S.1 S.2.1 dX5_begins_7 rfl (lv_at hl 1 rfl) ?_
  refine M_get S hin hK hG 12 (by decide) (by decide +kernel) rfl dX5_begins_8 ?_
  refine lv_iload_n S.1 S.2.1 dX5_begins_11 rfl (lv_at hl 3 rfl) ?_
  refine r_iald S hK hG 10 0 rfl rfl hxi dX5_begins_12 ?_
  refine lv_topi (fun v2 e_v2 => ?_)
  have hf := bnd_p e_v2 hf
  refine lv_istore (lv' := [(4, .int v2), (3, .int v1), (0, .ref (ad 0)), (1, .int x1), (2, .int x2)]) S.1 S.2.1 dX5_begins_13 hl (by decide) rfl (fun ls hl => ?_)
  refine lv_aload_n S.1 S.2.1 dX5_begins_15 rfl (lv_at hl 2 rfl) ?_
  refine M_get S hin hK hG 13 (by decide) (by decide +kernel) rfl dX5_begins_16 ?_
  refine lv_iload_n S.1 S.2.1 dX5_begins_19 rfl (lv_at hl 4 rfl) ?_
  refine r_iald S hK hG 11 0 rfl rfl hxi dX5_begins_20 ?_
  refine lv_topi (fun v3 e_v3 => ?_)
  have hf := bnd_p e_v3 hf
  refine lv_istore (lv' := [(5, .int v3), (4, .int v2), (3, .int v1), (0, .ref (ad 0)), (1, .int x1), (2, .int x2)]) S.1 S.2.1 dX5_begins_21 hl (by decide) rfl (fun ls hl => ?_)
  refine lv_aload_n S.1 S.2.1 dX5_begins_23 rfl (lv_at hl 3 rfl) ?_
  refine M_get S hin hK hG 30 (by decide) (by decide +kernel) rfl dX5_begins_24 ?_
  refine lv_iload_n S.1 S.2.1 dX5_begins_27 rfl (lv_at hl 4 rfl) ?_
  refine lv_iconst (v := 0) S.1 S.2.1 dX5_begins_28 (by decide) ?_
  refine M_ast S hK hG 31 20 300 rfl hat (RWs_31 _ _ _ _ _) dX5_begins_29 (fun σ4 H locs e_σ4 hG => ?_)
  have hf := bnd_p e_σ4 hf
  refine lv_aload_n S.1 S.2.1 dX5_begins_30 rfl (lv_at hl 3 rfl) ?_
  refine M_get S hin hK hG 31 (by decide) (by decide +kernel) rfl dX5_begins_31 ?_
  refine lv_iload_n S.1 S.2.1 dX5_begins_34 rfl (lv_at hl 4 rfl) ?_
  refine lv_iconst (v := 0) S.1 S.2.1 dX5_begins_35 (by decide) ?_
  refine M_ast S hK hG 32 21 300 rfl hat (RWs_32 _ _ _ _ _) dX5_begins_36 (fun σ5 H locs e_σ5 hG => ?_)
  have hf := bnd_p e_σ5 hf
  refine lv_aload_n S.1 S.2.1 dX5_begins_37 rfl (lv_at hl 3 rfl) ?_
  refine M_get S hin hK hG 10 (by decide) (by decide +kernel) rfl dX5_begins_38 ?_
  refine lv_iload_n S.1 S.2.1 dX5_begins_41 rfl (lv_at hl 5 rfl) ?_
  refine r_iald S hK hG 8 0 rfl rfl hxi dX5_begins_42 ?_
  refine (Decidable.em ((σ5 11 x2.toNatClampNeg) = 0)).elim (fun c_43_0 => ?_) (fun c_43_0 => ?_)
  · have hf := ite_p c_43_0 hf
    refine lv_tableIn (off := 49) (tgt := 92) S.1 S.2.1 dX5_begins_43 (by rw [c_43_0]; decide) (by rw [c_43_0]; decide) (by rw [c_43_0]; rfl) (by decide) ?_
    refine lv_aload_n S.1 S.2.1 dX5_begins_92 rfl (lv_at hl 3 rfl) ?_
    refine M_get S hin hK hG 1 (by decide) (by decide +kernel) rfl dX5_begins_93 ?_
    refine lv_iload_n S.1 S.2.1 dX5_begins_96 rfl (lv_at hl 2 rfl) ?_
    refine r_iald S hK hG 2 0 rfl rfl (by rw [e_v1]; exact k0 (by rw [e_σ5, e_σ4] at c_43_0; exact c_43_0)) dX5_begins_97 ?_
    refine lv_iload S.1 S.2.1 dX5_begins_98 (lv_at hl 1 rfl) ?_
    refine lv_icmp_ge (tgt := 111) S.1 S.2.1 dX5_begins_100 (by decide) (fun c_100 => ?_) (fun c_100 => ?_)
    · have hf := ite_p c_100 hf
      refine lv_aload_n S.1 S.2.1 dX5_begins_111 rfl (lv_at hl 3 rfl) ?_
      refine M_get S hin hK hG 1 (by decide) (by decide +kernel) rfl dX5_begins_112 ?_
      refine lv_iload_n S.1 S.2.1 dX5_begins_115 rfl (lv_at hl 2 rfl) ?_
      refine lv_dup2_11 S.1 S.2.1 dX5_begins_116 rfl rfl ?_
      refine r_iald S hK hG 2 0 rfl rfl (by rw [e_v1]; exact k0 (by rw [e_σ5, e_σ4] at c_43_0; exact c_43_0)) dX5_begins_117 ?_
      refine lv_iload S.1 S.2.1 dX5_begins_118 (lv_at hl 1 rfl) ?_
      refine lv_isub S.1 S.2.1 dX5_begins_120 ?_
      refine M_ast S hK hG 2 2 6 rfl (by rw [e_v1]; exact k0 (by rw [e_σ5, e_σ4] at c_43_0; exact c_43_0)) (RWs_2 _ _ _ _ _) dX5_begins_121 (fun σ6 H locs e_σ6 hG => ?_)
      have hf := bnd_p e_σ6 hf
      refine lv_aload_n S.1 S.2.1 dX5_begins_122 rfl (lv_at hl 3 rfl) ?_
      refine lv_iload S.1 S.2.1 dX5_begins_123 (lv_at hl 1 rfl) ?_
      refine r_callVv S hK hA hG (k_X5_ends l _ _ _ _ _) (cwV 1 S.2.2.2.2 gX5_begins_X5_ends rfl rfl rfl (by decide +kernel) ⟨Nat.le_of_ble_eq_true rfl, Nat.le_of_ble_eq_true rfl⟩) (va_recv hK hG.1 (ci := 5) (q0 := 0) rfl rfl) rfl hl.1 rfl (Nat.le_of_ble_eq_true rfl) dX5_begins_125 ⟨Nat.le_of_ble_eq_true rfl, Nat.le_of_ble_eq_true rfl⟩ (fun σ7 H locs e_σ7 hG => ?_)
      have hf := bnd_p e_σ7 hf
      refine lv_goto (tgt := 381) S.1 S.2.1 dX5_begins_128 (by decide) ?_
      exact r_vret S hr hlocks hG _ rfl hf dX5_begins_381
    · have hf := ite_n c_100 hf
      refine lv_aload_n S.1 S.2.1 dX5_begins_103 rfl (lv_at hl 3 rfl) ?_
      refine lv_iconst (v := 3) S.1 S.2.1 dX5_begins_104 (by decide) ?_
      refine r_callVv S hK hA hG (k_X5_fails l _ _ _ _ _) (cwV 1 S.2.2.2.2 gX5_begins_X5_fails rfl rfl rfl (by decide +kernel) ⟨Nat.le_of_ble_eq_true rfl, Nat.le_of_ble_eq_true rfl⟩) (va_recv hK hG.1 (ci := 5) (q0 := 0) rfl rfl) rfl hl.1 rfl (Nat.le_of_ble_eq_true rfl) dX5_begins_105 ⟨Nat.le_of_ble_eq_true rfl, Nat.le_of_ble_eq_true rfl⟩ (fun σ8 H locs e_σ8 hG => ?_)
      have hf := bnd_p e_σ8 hf
      refine lv_goto (tgt := 381) S.1 S.2.1 dX5_begins_108 (by decide) ?_
      exact r_vret S hr hlocks hG _ rfl hf dX5_begins_381
  have hf := ite_n c_43_0 hf
  refine (Decidable.em ((σ5 11 x2.toNatClampNeg) = 1)).elim (fun c_43_1 => ?_) (fun c_43_1 => ?_)
  · have hf := ite_p c_43_1 hf
    refine lv_tableIn (off := 88) (tgt := 131) S.1 S.2.1 dX5_begins_43 (by rw [c_43_1]; decide) (by rw [c_43_1]; decide) (by rw [c_43_1]; rfl) (by decide) ?_
    refine lv_aload_n S.1 S.2.1 dX5_begins_131 rfl (lv_at hl 3 rfl) ?_
    refine M_get S hin hK hG 1 (by decide) (by decide +kernel) rfl dX5_begins_132 ?_
    refine lv_iload_n S.1 S.2.1 dX5_begins_135 rfl (lv_at hl 2 rfl) ?_
    refine r_iald S hK hG 2 0 rfl rfl (by rw [e_v1]; exact (k1 (by rw [e_σ5, e_σ4] at c_43_1; exact c_43_1)).1) dX5_begins_136 ?_
    refine lv_iload S.1 S.2.1 dX5_begins_137 (lv_at hl 0 rfl) ?_
    refine lv_icmp_ge (tgt := 150) S.1 S.2.1 dX5_begins_139 (by decide) (fun c_139 => ?_) (fun c_139 => ?_)
    · have hf := ite_p c_139 hf
      refine lv_aload_n S.1 S.2.1 dX5_begins_150 rfl (lv_at hl 3 rfl) ?_
      refine M_get S hin hK hG 1 (by decide) (by decide +kernel) rfl dX5_begins_151 ?_
      refine lv_iload_n S.1 S.2.1 dX5_begins_154 rfl (lv_at hl 2 rfl) ?_
      refine lv_dup2_11 S.1 S.2.1 dX5_begins_155 rfl rfl ?_
      refine r_iald S hK hG 2 0 rfl rfl (by rw [e_v1]; exact (k1 (by rw [e_σ5, e_σ4] at c_43_1; exact c_43_1)).1) dX5_begins_156 ?_
      refine lv_iload S.1 S.2.1 dX5_begins_157 (lv_at hl 0 rfl) ?_
      refine lv_isub S.1 S.2.1 dX5_begins_159 ?_
      refine M_ast S hK hG 2 2 6 rfl (by rw [e_v1]; exact (k1 (by rw [e_σ5, e_σ4] at c_43_1; exact c_43_1)).1) (RWs_2 _ _ _ _ _) dX5_begins_160 (fun σ9 H locs e_σ9 hG => ?_)
      have hf := bnd_p e_σ9 hf
      refine lv_aload_n S.1 S.2.1 dX5_begins_161 rfl (lv_at hl 3 rfl) ?_
      refine M_get S hin hK hG 1 (by decide) (by decide +kernel) rfl dX5_begins_162 ?_
      refine lv_iload S.1 S.2.1 dX5_begins_165 (lv_at hl 1 rfl) ?_
      refine lv_dup2_11 S.1 S.2.1 dX5_begins_167 rfl rfl ?_
      refine r_iald S hK hG 2 0 rfl rfl (by rw [e_v2]; exact (k1 (by rw [e_σ5, e_σ4] at c_43_1; exact c_43_1)).2) dX5_begins_168 ?_
      refine lv_iload S.1 S.2.1 dX5_begins_169 (lv_at hl 0 rfl) ?_
      refine lv_iadd S.1 S.2.1 dX5_begins_171 ?_
      refine M_ast S hK hG 2 2 6 rfl (by rw [e_v2]; exact (k1 (by rw [e_σ5, e_σ4] at c_43_1; exact c_43_1)).2) (RWs_2 _ _ _ _ _) dX5_begins_172 (fun σ10 H locs e_σ10 hG => ?_)
      have hf := bnd_p e_σ10 hf
      refine lv_aload_n S.1 S.2.1 dX5_begins_173 rfl (lv_at hl 3 rfl) ?_
      refine lv_iload S.1 S.2.1 dX5_begins_174 (lv_at hl 0 rfl) ?_
      refine r_callVv S hK hA hG (k_X5_ends l _ _ _ _ _) (cwV 1 S.2.2.2.2 gX5_begins_X5_ends rfl rfl rfl (by decide +kernel) ⟨Nat.le_of_ble_eq_true rfl, Nat.le_of_ble_eq_true rfl⟩) (va_recv hK hG.1 (ci := 5) (q0 := 0) rfl rfl) rfl hl.1 rfl (Nat.le_of_ble_eq_true rfl) dX5_begins_176 ⟨Nat.le_of_ble_eq_true rfl, Nat.le_of_ble_eq_true rfl⟩ (fun σ11 H locs e_σ11 hG => ?_)
      have hf := bnd_p e_σ11 hf
      refine lv_goto (tgt := 381) S.1 S.2.1 dX5_begins_179 (by decide) ?_
      exact r_vret S hr hlocks hG _ rfl hf dX5_begins_381
    · have hf := ite_n c_139 hf
      refine lv_aload_n S.1 S.2.1 dX5_begins_142 rfl (lv_at hl 3 rfl) ?_
      refine lv_iconst (v := 3) S.1 S.2.1 dX5_begins_143 (by decide) ?_
      refine r_callVv S hK hA hG (k_X5_fails l _ _ _ _ _) (cwV 1 S.2.2.2.2 gX5_begins_X5_fails rfl rfl rfl (by decide +kernel) ⟨Nat.le_of_ble_eq_true rfl, Nat.le_of_ble_eq_true rfl⟩) (va_recv hK hG.1 (ci := 5) (q0 := 0) rfl rfl) rfl hl.1 rfl (Nat.le_of_ble_eq_true rfl) dX5_begins_144 ⟨Nat.le_of_ble_eq_true rfl, Nat.le_of_ble_eq_true rfl⟩ (fun σ12 H locs e_σ12 hG => ?_)
      have hf := bnd_p e_σ12 hf
      refine lv_goto (tgt := 381) S.1 S.2.1 dX5_begins_147 (by decide) ?_
      exact r_vret S hr hlocks hG _ rfl hf dX5_begins_381
  have hf := ite_n c_43_1 hf
  refine (Decidable.em ((σ5 11 x2.toNatClampNeg) = 2)).elim (fun c_43_2 => ?_) (fun c_43_2 => ?_)
  · have hf := ite_p c_43_2 hf
    refine lv_tableIn (off := 139) (tgt := 182) S.1 S.2.1 dX5_begins_43 (by rw [c_43_2]; decide) (by rw [c_43_2]; decide) (by rw [c_43_2]; rfl) (by decide) ?_
    refine lv_aload_n S.1 S.2.1 dX5_begins_182 rfl (lv_at hl 3 rfl) ?_
    refine lv_iload_n S.1 S.2.1 dX5_begins_183 rfl (lv_at hl 4 rfl) ?_
    refine lv_iconst (v := 0) S.1 S.2.1 dX5_begins_184 (by decide) ?_
    refine lv_iload_n S.1 S.2.1 dX5_begins_185 rfl (lv_at hl 2 rfl) ?_
    refine r_callVv S hK hA hG (k_X5_goOn l _ _ _ _ _ _ _ hat (by rw [e_σ5, e_σ4]; exact ht)) (cwV 3 S.2.2.2.2 gX5_begins_X5_goOn rfl rfl rfl (by decide +kernel) ⟨Nat.le_of_ble_eq_true rfl, Nat.le_of_ble_eq_true rfl⟩) (va_recv hK hG.1 (ci := 5) (q0 := 0) rfl rfl) rfl hl.1 rfl (Nat.le_of_ble_eq_true rfl) dX5_begins_186 ⟨Nat.le_of_ble_eq_true rfl, Nat.le_of_ble_eq_true rfl⟩ (fun σ13 H locs e_σ13 hG => ?_)
    have hf := bnd_p e_σ13 hf
    refine lv_goto (tgt := 381) S.1 S.2.1 dX5_begins_189 (by decide) ?_
    exact r_vret S hr hlocks hG _ rfl hf dX5_begins_381
  have hf := ite_n c_43_2 hf
  refine (Decidable.em ((σ5 11 x2.toNatClampNeg) = 3)).elim (fun c_43_3 => ?_) (fun c_43_3 => ?_)
  · have hf := ite_p c_43_3 hf
    refine lv_tableIn (off := 331) (tgt := 374) S.1 S.2.1 dX5_begins_43 (by rw [c_43_3]; decide) (by rw [c_43_3]; decide) (by rw [c_43_3]; rfl) (by decide) ?_
    refine lv_aload_n S.1 S.2.1 dX5_begins_374 rfl (lv_at hl 3 rfl) ?_
    refine lv_iload_n S.1 S.2.1 dX5_begins_375 rfl (lv_at hl 4 rfl) ?_
    refine lv_iconst (v := 1) S.1 S.2.1 dX5_begins_376 (by decide) ?_
    refine lv_iload_n S.1 S.2.1 dX5_begins_377 rfl (lv_at hl 2 rfl) ?_
    refine r_callVv S hK hA hG (k_X5_goOn l _ _ _ _ _ _ _ hat (by rw [e_σ5, e_σ4]; exact ht)) (cwV 3 S.2.2.2.2 gX5_begins_X5_goOn rfl rfl rfl (by decide +kernel) ⟨Nat.le_of_ble_eq_true rfl, Nat.le_of_ble_eq_true rfl⟩) (va_recv hK hG.1 (ci := 5) (q0 := 0) rfl rfl) rfl hl.1 rfl (Nat.le_of_ble_eq_true rfl) dX5_begins_378 ⟨Nat.le_of_ble_eq_true rfl, Nat.le_of_ble_eq_true rfl⟩ (fun σ14 H locs e_σ14 hG => ?_)
    have hf := bnd_p e_σ14 hf
    exact r_vret S hr hlocks hG _ rfl hf dX5_begins_381
  have hf := ite_n c_43_3 hf
  refine (Decidable.em ((σ5 11 x2.toNatClampNeg) = 4)).elim (fun c_43_4 => ?_) (fun c_43_4 => ?_)
  · have hf := ite_p c_43_4 hf
    refine lv_tableIn (off := 149) (tgt := 192) S.1 S.2.1 dX5_begins_43 (by rw [c_43_4]; decide) (by rw [c_43_4]; decide) (by rw [c_43_4]; rfl) (by decide) ?_
    refine lv_iload S.1 S.2.1 dX5_begins_192 (lv_at hl 1 rfl) ?_
    refine lv_if_ne (tgt := 205) S.1 S.2.1 dX5_begins_194 (by decide) (fun c_194 => ?_) (fun c_194 => ?_)
    · have hf := ite_n c_194 hf
      refine lv_aload_n S.1 S.2.1 dX5_begins_205 rfl (lv_at hl 3 rfl) ?_
      refine lv_iload_n S.1 S.2.1 dX5_begins_206 rfl (lv_at hl 4 rfl) ?_
      refine lv_iconst (v := 1) S.1 S.2.1 dX5_begins_207 (by decide) ?_
      refine lv_iload_n S.1 S.2.1 dX5_begins_208 rfl (lv_at hl 2 rfl) ?_
      refine r_callVv S hK hA hG (k_X5_goOn l _ _ _ _ _ _ _ hat (by rw [e_σ5, e_σ4]; exact ht)) (cwV 3 S.2.2.2.2 gX5_begins_X5_goOn rfl rfl rfl (by decide +kernel) ⟨Nat.le_of_ble_eq_true rfl, Nat.le_of_ble_eq_true rfl⟩) (va_recv hK hG.1 (ci := 5) (q0 := 0) rfl rfl) rfl hl.1 rfl (Nat.le_of_ble_eq_true rfl) dX5_begins_209 ⟨Nat.le_of_ble_eq_true rfl, Nat.le_of_ble_eq_true rfl⟩ (fun σ15 H locs e_σ15 hG => ?_)
      have hf := bnd_p e_σ15 hf
      refine lv_goto (tgt := 381) S.1 S.2.1 dX5_begins_212 (by decide) ?_
      exact r_vret S hr hlocks hG _ rfl hf dX5_begins_381
    · have hf := ite_p c_194 hf
      refine lv_aload_n S.1 S.2.1 dX5_begins_197 rfl (lv_at hl 3 rfl) ?_
      refine lv_iconst (v := 0) S.1 S.2.1 dX5_begins_198 (by decide) ?_
      refine r_callVv S hK hA hG (k_X5_ends l _ _ _ _ _) (cwV 1 S.2.2.2.2 gX5_begins_X5_ends rfl rfl rfl (by decide +kernel) ⟨Nat.le_of_ble_eq_true rfl, Nat.le_of_ble_eq_true rfl⟩) (va_recv hK hG.1 (ci := 5) (q0 := 0) rfl rfl) rfl hl.1 rfl (Nat.le_of_ble_eq_true rfl) dX5_begins_199 ⟨Nat.le_of_ble_eq_true rfl, Nat.le_of_ble_eq_true rfl⟩ (fun σ16 H locs e_σ16 hG => ?_)
      have hf := bnd_p e_σ16 hf
      refine lv_goto (tgt := 381) S.1 S.2.1 dX5_begins_202 (by decide) ?_
      exact r_vret S hr hlocks hG _ rfl hf dX5_begins_381
  have hf := ite_n c_43_4 hf
  refine (Decidable.em ((σ5 11 x2.toNatClampNeg) = 5)).elim (fun c_43_5 => ?_) (fun c_43_5 => ?_)
  · have hf := ite_p c_43_5 hf
    refine lv_tableIn (off := 172) (tgt := 215) S.1 S.2.1 dX5_begins_43 (by rw [c_43_5]; decide) (by rw [c_43_5]; decide) (by rw [c_43_5]; rfl) (by decide) ?_
    refine lv_aload_n S.1 S.2.1 dX5_begins_215 rfl (lv_at hl 3 rfl) ?_
    refine lv_iload_n S.1 S.2.1 dX5_begins_216 rfl (lv_at hl 2 rfl) ?_
    refine lv_aload_n S.1 S.2.1 dX5_begins_217 rfl (lv_at hl 3 rfl) ?_
    refine M_get S hin hK hG 2 (by decide) (by decide +kernel) rfl dX5_begins_218 ?_
    refine lv_iload S.1 S.2.1 dX5_begins_221 (lv_at hl 1 rfl) ?_
    refine lv_iadd S.1 S.2.1 dX5_begins_223 ?_
    refine r_callVv S hK hA hG (k_X5_waits l _ _ _ _ _ _ (by rw [e_σ5, e_σ4]; exact hw)) (cwV 2 S.2.2.2.2 gX5_begins_X5_waits rfl rfl rfl (by decide +kernel) ⟨Nat.le_of_ble_eq_true rfl, Nat.le_of_ble_eq_true rfl⟩) (va_recv hK hG.1 (ci := 5) (q0 := 0) rfl rfl) rfl hl.1 rfl (Nat.le_of_ble_eq_true rfl) dX5_begins_224 ⟨Nat.le_of_ble_eq_true rfl, Nat.le_of_ble_eq_true rfl⟩ (fun σ17 H locs e_σ17 hG => ?_)
    have hf := bnd_p e_σ17 hf
    refine lv_aload_n S.1 S.2.1 dX5_begins_227 rfl (lv_at hl 3 rfl) ?_
    refine lv_iconst (v := 0) S.1 S.2.1 dX5_begins_228 (by decide) ?_
    refine r_callVv S hK hA hG (k_X5_ends l _ _ _ _ _) (cwV 1 S.2.2.2.2 gX5_begins_X5_ends rfl rfl rfl (by decide +kernel) ⟨Nat.le_of_ble_eq_true rfl, Nat.le_of_ble_eq_true rfl⟩) (va_recv hK hG.1 (ci := 5) (q0 := 0) rfl rfl) rfl hl.1 rfl (Nat.le_of_ble_eq_true rfl) dX5_begins_229 ⟨Nat.le_of_ble_eq_true rfl, Nat.le_of_ble_eq_true rfl⟩ (fun σ18 H locs e_σ18 hG => ?_)
    have hf := bnd_p e_σ18 hf
    refine lv_goto (tgt := 381) S.1 S.2.1 dX5_begins_232 (by decide) ?_
    exact r_vret S hr hlocks hG _ rfl hf dX5_begins_381
  have hf := ite_n c_43_5 hf
  refine (Decidable.em ((σ5 11 x2.toNatClampNeg) = 6)).elim (fun c_43_6 => ?_) (fun c_43_6 => ?_)
  · have hf := ite_p c_43_6 hf
    refine lv_tableIn (off := 192) (tgt := 235) S.1 S.2.1 dX5_begins_43 (by rw [c_43_6]; decide) (by rw [c_43_6]; decide) (by rw [c_43_6]; rfl) (by decide) ?_
    refine lv_iconst (v := 0) S.1 S.2.1 dX5_begins_235 (by decide) ?_
    refine lv_istore (lv' := [(6, .int 0), (5, .int v3), (4, .int v2), (3, .int v1), (0, .ref (ad 0)), (1, .int x1), (2, .int x2)]) S.1 S.2.1 dX5_begins_236 hl (by decide) rfl (fun ls hl => ?_)
    exact b_X5_begins_238 S hr hlocks hK hA 7 σ5 x1 x2 v1 0 (hat) (by rw [e_σ5, e_σ4]; exact ht) (⟨0, rfl, by omega, by omega⟩) hf H locs hG ls (lv_sub hl [4, 5, 6, 3, 0] rfl)
  have hf := ite_n c_43_6 hf
  refine (Decidable.em ((σ5 11 x2.toNatClampNeg) = 7)).elim (fun c_43_7 => ?_) (fun c_43_7 => ?_)
  · have hf := ite_p c_43_7 hf
    refine lv_tableIn (off := 237) (tgt := 280) S.1 S.2.1 dX5_begins_43 (by rw [c_43_7]; decide) (by rw [c_43_7]; decide) (by rw [c_43_7]; rfl) (by decide) ?_
    refine lv_iload_n S.1 S.2.1 dX5_begins_280 rfl (lv_at hl 2 rfl) ?_
    refine lv_if_ge (tgt := 337) S.1 S.2.1 dX5_begins_281 (by decide) (fun c_281 => ?_) (fun c_281 => ?_)
    · have hf := ite_p c_281 hf
      refine lv_aload_n S.1 S.2.1 dX5_begins_337 rfl (lv_at hl 3 rfl) ?_
      refine lv_iload_n S.1 S.2.1 dX5_begins_338 rfl (lv_at hl 4 rfl) ?_
      refine lv_iconst (v := 1) S.1 S.2.1 dX5_begins_339 (by decide) ?_
      refine lv_iload_n S.1 S.2.1 dX5_begins_340 rfl (lv_at hl 2 rfl) ?_
      refine r_callVv S hK hA hG (k_X5_goOn l _ _ _ _ _ _ _ hat (by rw [e_σ5, e_σ4]; exact ht)) (cwV 3 S.2.2.2.2 gX5_begins_X5_goOn rfl rfl rfl (by decide +kernel) ⟨Nat.le_of_ble_eq_true rfl, Nat.le_of_ble_eq_true rfl⟩) (va_recv hK hG.1 (ci := 5) (q0 := 0) rfl rfl) rfl hl.1 rfl (Nat.le_of_ble_eq_true rfl) dX5_begins_341 ⟨Nat.le_of_ble_eq_true rfl, Nat.le_of_ble_eq_true rfl⟩ (fun σ19 H locs e_σ19 hG => ?_)
      have hf := bnd_p e_σ19 hf
      refine lv_goto (tgt := 381) S.1 S.2.1 dX5_begins_344 (by decide) ?_
      exact r_vret S hr hlocks hG _ rfl hf dX5_begins_381
    · have hf := ite_n c_281 hf
      refine lv_aload_n S.1 S.2.1 dX5_begins_284 rfl (lv_at hl 3 rfl) ?_
      refine M_get S hin hK hG 26 (by decide) (by decide +kernel) rfl dX5_begins_285 ?_
      refine lv_sipush (v := 300) S.1 S.2.1 dX5_begins_288 (by decide) ?_
      refine lv_icmp_ne (tgt := 298) S.1 S.2.1 dX5_begins_291 (by decide) (fun c_291 => ?_) (fun c_291 => ?_)
      · have hf := ite_n c_291 hf
        refine lv_iconst (v := 0) S.1 S.2.1 dX5_begins_298 (by decide) ?_
        refine lv_istore (lv' := [(6, .int 0), (5, .int v3), (4, .int v2), (3, .int v1), (0, .ref (ad 0)), (1, .int x1), (2, .int x2)]) S.1 S.2.1 dX5_begins_299 hl (by decide) rfl (fun ls hl => ?_)
        refine lv_aload_n S.1 S.2.1 dX5_begins_301 rfl (lv_at hl 4 rfl) ?_
        refine lv_dup S.1 S.2.1 dX5_begins_302 rfl ?_
        refine M_get S hin hK hG 26 (by decide) (by decide +kernel) rfl dX5_begins_303 ?_
        refine lv_iload S.1 S.2.1 dX5_begins_306 (lv_at hl 0 rfl) ?_
        refine lv_if_eq (tgt := 315) S.1 S.2.1 dX5_begins_308 (by decide) (fun _ => ?_) (fun c_ => absurd c_ (by decide))
        refine lv_iconst (v := 1) S.1 S.2.1 dX5_begins_315 (by decide) ?_
        refine lv_iadd S.1 S.2.1 dX5_begins_316 ?_
        refine M_put S hin hK hG 26 (by decide) (by decide +kernel) rfl rfl rfl (RWp_26 _ _ _ _) dX5_begins_317 (fun σ20 H locs e_σ20 hG => ?_)
        have hf := bnd_p e_σ20 hf
        refine lv_aload_n S.1 S.2.1 dX5_begins_320 rfl (lv_at hl 4 rfl) ?_
        refine lv_iload S.1 S.2.1 dX5_begins_321 (lv_at hl 0 rfl) ?_
        refine lv_if_eq (tgt := 330) S.1 S.2.1 dX5_begins_323 (by decide) (fun _ => ?_) (fun c_ => absurd c_ (by decide))
        refine lv_iconst (v := 4) S.1 S.2.1 dX5_begins_330 (by decide) ?_
        refine r_callVv S hK hA hG (k_X5_fails l _ _ _ _ _) (cwV 1 S.2.2.2.2 gX5_begins_X5_fails rfl rfl rfl (by decide +kernel) ⟨Nat.le_of_ble_eq_true rfl, Nat.le_of_ble_eq_true rfl⟩) (va_recv hK hG.1 (ci := 5) (q0 := 0) rfl rfl) rfl hl.1 rfl (Nat.le_of_ble_eq_true rfl) dX5_begins_331 ⟨Nat.le_of_ble_eq_true rfl, Nat.le_of_ble_eq_true rfl⟩ (fun σ21 H locs e_σ21 hG => ?_)
        have hf := bnd_p e_σ21 hf
        refine lv_goto (tgt := 381) S.1 S.2.1 dX5_begins_334 (by decide) ?_
        exact r_vret S hr hlocks hG _ rfl hf dX5_begins_381
      · have hf := ite_p c_291 hf
        refine lv_iconst (v := 1) S.1 S.2.1 dX5_begins_294 (by decide) ?_
        refine lv_goto (tgt := 299) S.1 S.2.1 dX5_begins_295 (by decide) ?_
        refine lv_istore (lv' := [(6, .int 1), (5, .int v3), (4, .int v2), (3, .int v1), (0, .ref (ad 0)), (1, .int x1), (2, .int x2)]) S.1 S.2.1 dX5_begins_299 hl (by decide) rfl (fun ls hl => ?_)
        refine lv_aload_n S.1 S.2.1 dX5_begins_301 rfl (lv_at hl 4 rfl) ?_
        refine lv_dup S.1 S.2.1 dX5_begins_302 rfl ?_
        refine M_get S hin hK hG 26 (by decide) (by decide +kernel) rfl dX5_begins_303 ?_
        refine lv_iload S.1 S.2.1 dX5_begins_306 (lv_at hl 0 rfl) ?_
        refine lv_if_eq (tgt := 315) S.1 S.2.1 dX5_begins_308 (by decide) (fun c_ => absurd c_ (by decide)) (fun _ => ?_)
        refine lv_iconst (v := 0) S.1 S.2.1 dX5_begins_311 (by decide) ?_
        refine lv_goto (tgt := 316) S.1 S.2.1 dX5_begins_312 (by decide) ?_
        refine lv_iadd S.1 S.2.1 dX5_begins_316 ?_
        refine M_put S hin hK hG 26 (by decide) (by decide +kernel) rfl rfl rfl (RWp_26 _ _ _ _) dX5_begins_317 (fun σ22 H locs e_σ22 hG => ?_)
        have hf := bnd_p e_σ22 hf
        refine lv_aload_n S.1 S.2.1 dX5_begins_320 rfl (lv_at hl 4 rfl) ?_
        refine lv_iload S.1 S.2.1 dX5_begins_321 (lv_at hl 0 rfl) ?_
        refine lv_if_eq (tgt := 330) S.1 S.2.1 dX5_begins_323 (by decide) (fun c_ => absurd c_ (by decide)) (fun _ => ?_)
        refine lv_iconst (v := 5) S.1 S.2.1 dX5_begins_326 (by decide) ?_
        refine lv_goto (tgt := 331) S.1 S.2.1 dX5_begins_327 (by decide) ?_
        refine r_callVv S hK hA hG (k_X5_fails l _ _ _ _ _) (cwV 1 S.2.2.2.2 gX5_begins_X5_fails rfl rfl rfl (by decide +kernel) ⟨Nat.le_of_ble_eq_true rfl, Nat.le_of_ble_eq_true rfl⟩) (va_recv hK hG.1 (ci := 5) (q0 := 0) rfl rfl) rfl hl.1 rfl (Nat.le_of_ble_eq_true rfl) dX5_begins_331 ⟨Nat.le_of_ble_eq_true rfl, Nat.le_of_ble_eq_true rfl⟩ (fun σ23 H locs e_σ23 hG => ?_)
        have hf := bnd_p e_σ23 hf
        refine lv_goto (tgt := 381) S.1 S.2.1 dX5_begins_334 (by decide) ?_
        exact r_vret S hr hlocks hG _ rfl hf dX5_begins_381
  have hf := ite_n c_43_7 hf
  refine (Decidable.em ((σ5 11 x2.toNatClampNeg) = 8)).elim (fun c_43_8 => ?_) (fun c_43_8 => ?_)
  · have hf := ite_p c_43_8 hf
    refine lv_tableIn (off := 304) (tgt := 347) S.1 S.2.1 dX5_begins_43 (by rw [c_43_8]; decide) (by rw [c_43_8]; decide) (by rw [c_43_8]; rfl) (by decide) ?_
    refine lv_aload_n S.1 S.2.1 dX5_begins_347 rfl (lv_at hl 3 rfl) ?_
    refine M_get S hin hK hG 0 (by decide) (by decide +kernel) rfl dX5_begins_348 ?_
    refine lv_iload_n S.1 S.2.1 dX5_begins_351 rfl (lv_at hl 2 rfl) ?_
    refine lv_aload_n S.1 S.2.1 dX5_begins_352 rfl (lv_at hl 3 rfl) ?_
    refine M_get S hin hK hG 1 (by decide) (by decide +kernel) rfl dX5_begins_353 ?_
    refine lv_iload S.1 S.2.1 dX5_begins_356 (lv_at hl 1 rfl) ?_
    refine r_iald S hK hG 2 0 rfl rfl (by rw [e_v2]; exact (k8 (by rw [e_σ5, e_σ4] at c_43_8; exact c_43_8)).2) dX5_begins_358 ?_
    refine M_ast S hK hG 1 1 8 rfl (by rw [e_v1]; exact (k8 (by rw [e_σ5, e_σ4] at c_43_8; exact c_43_8)).1) (RWs_1 _ _ _ _ _) dX5_begins_359 (fun σ24 H locs e_σ24 hG => ?_)
    have hf := bnd_p e_σ24 hf
    refine lv_aload_n S.1 S.2.1 dX5_begins_360 rfl (lv_at hl 3 rfl) ?_
    refine lv_aload_n S.1 S.2.1 dX5_begins_361 rfl (lv_at hl 3 rfl) ?_
    refine M_get S hin hK hG 1 (by decide) (by decide +kernel) rfl dX5_begins_362 ?_
    refine lv_iload S.1 S.2.1 dX5_begins_365 (lv_at hl 1 rfl) ?_
    refine r_iald S hK hG 2 0 rfl rfl (by rw [e_v2]; exact (k8 (by rw [e_σ5, e_σ4] at c_43_8; exact c_43_8)).2) dX5_begins_367 ?_
    refine r_callVv S hK hA hG (k_X5_ends l _ _ _ _ _) (cwV 1 S.2.2.2.2 gX5_begins_X5_ends rfl rfl rfl (by decide +kernel) ⟨Nat.le_of_ble_eq_true rfl, Nat.le_of_ble_eq_true rfl⟩) (va_recv hK hG.1 (ci := 5) (q0 := 0) rfl rfl) rfl hl.1 rfl (Nat.le_of_ble_eq_true rfl) dX5_begins_368 ⟨Nat.le_of_ble_eq_true rfl, Nat.le_of_ble_eq_true rfl⟩ (fun σ25 H locs e_σ25 hG => ?_)
    have hf := bnd_p e_σ25 hf
    refine lv_goto (tgt := 381) S.1 S.2.1 dX5_begins_371 (by decide) ?_
    exact r_vret S hr hlocks hG _ rfl hf dX5_begins_381
  have hf := ite_n c_43_8 hf
  refine lv_tableOut (tgt := 374) S.1 S.2.1 dX5_begins_43 (by have h0 := sw_ne (z := 0) rfl c_43_0; have h1 := sw_ne (z := 1) rfl c_43_1; have h2 := sw_ne (z := 2) rfl c_43_2; have h3 := sw_ne (z := 3) rfl c_43_3; have h4 := sw_ne (z := 4) rfl c_43_4; have h5 := sw_ne (z := 5) rfl c_43_5; have h6 := sw_ne (z := 6) rfl c_43_6; have h7 := sw_ne (z := 7) rfl c_43_7; have h8 := sw_ne (z := 8) rfl c_43_8; omega) (by decide) ?_
  refine lv_aload_n S.1 S.2.1 dX5_begins_374 rfl (lv_at hl 3 rfl) ?_
  refine lv_iload_n S.1 S.2.1 dX5_begins_375 rfl (lv_at hl 4 rfl) ?_
  refine lv_iconst (v := 1) S.1 S.2.1 dX5_begins_376 (by decide) ?_
  refine lv_iload_n S.1 S.2.1 dX5_begins_377 rfl (lv_at hl 2 rfl) ?_
  refine r_callVv S hK hA hG (k_X5_goOn l _ _ _ _ _ _ _ hat (by rw [e_σ5, e_σ4]; exact ht)) (cwV 3 S.2.2.2.2 gX5_begins_X5_goOn rfl rfl rfl (by decide +kernel) ⟨Nat.le_of_ble_eq_true rfl, Nat.le_of_ble_eq_true rfl⟩) (va_recv hK hG.1 (ci := 5) (q0 := 0) rfl rfl) rfl hl.1 rfl (Nat.le_of_ble_eq_true rfl) dX5_begins_378 ⟨Nat.le_of_ble_eq_true rfl, Nat.le_of_ble_eq_true rfl⟩ (fun σ26 H locs e_σ26 hG => ?_)
  have hf := bnd_p e_σ26 hf
  exact r_vret S hr hlocks hG _ rfl hf dX5_begins_381
theorem k_X5_begins (l : Launch) (D : va_G) (cI : ClassId) (ad : Nat → Nat) (σ : Mem) (x1 : Int32) (x2 : Int32) (hat : vp_in x1 300) (hxi : vp_in x2 40) (k0 : σ 11 x2.toNatClampNeg = 0 → vp_in (σ 12 x2.toNatClampNeg) 6) (k1 : σ 11 x2.toNatClampNeg = 1 → vp_in (σ 12 x2.toNatClampNeg) 6 ∧ vp_in (σ 13 x2.toNatClampNeg) 6) (k8 : σ 11 x2.toNatClampNeg = 8 → vp_in (σ 12 x2.toNatClampNeg) 8 ∧ vp_in (σ 13 x2.toNatClampNeg) 6) (ht : ¬ σ 0 26 = 300 → vp_in (σ 0 25) 300) (hw : ¬ 60 ≤ σ 0 14 → vp_in (σ 0 14) 60) : CMv l yX5_begins wsX5_begins ({ frames := 2, cells := 0, slots := 0, locals := 45 } : Room) D vwCl [(cI, .int)] (RW ad cI σ) [.ref (ad 0), .int x1, .int x2] (fun (u : Mem) => u = (f_X5_begins σ x1 x2)) (fun u => RW ad cI u) :=
  r_met (by decide) rfl (Nat.le_of_ble_eq_true rfl) (fun p e s m args below meth c ls S hr hlocks _ hK hA hG hl => b_X5_begins_0 S hr hlocks hK hA σ x1 x2 hat hxi k0 k1 k8 ht hw rfl _ _ hG ls hl)
theorem in_X5_goAct : ∀ w ∈ wsX50, w ∈ wsX5_goAct := by decide +kernel
def f_X5_goAct_102 (σ : Mem) (x1 : Int32) (x2 : Int32) (kd : Int32) : Mem :=
  (if (σ 0 35) = 0 then
  (if kd ≤ 5 then
  (if kd = 2 then
  (if (σ 0 34) = 1 then
  bnd (σ 13 x2.toNatClampNeg) fun v14 =>
  (if (σ 30 x1.toNatClampNeg) = 2 then
  bnd (f_X5_passes σ) fun σ17 =>
  σ17
  else
  (if v14 = (-1) then
  bnd (f_X5_ends σ 0) fun σ16 =>
  σ16
  else
  bnd (f_X5_goOn σ x1 1 v14) fun σ15 =>
  σ15))
  else
  bnd (σ 14 x2.toNatClampNeg) fun v10 =>
  (if (σ 30 x1.toNatClampNeg) = 2 then
  bnd (f_X5_passes σ) fun σ13 =>
  σ13
  else
  (if v10 = (-1) then
  bnd (f_X5_ends σ 0) fun σ12 =>
  σ12
  else
  bnd (f_X5_goOn σ x1 1 v10) fun σ11 =>
  σ11)))
  else
  bnd (mset σ 31 x1.toNatClampNeg ((σ 31 x1.toNatClampNeg) + (σ 0 34))) fun σ2 =>
  bnd (mset σ2 32 x1.toNatClampNeg ((σ2 32 x1.toNatClampNeg) + 1)) fun σ3 =>
  (if kd = 3 then
  (if (σ3 32 x1.toNatClampNeg) = 2 then
  bnd (f_X5_ends σ3 (σ3 31 x1.toNatClampNeg)) fun σ9 =>
  σ9
  else
  (if kd = 3 then
  bnd (f_X5_goOn σ3 x1 1 (σ3 13 x2.toNatClampNeg)) fun σ8 =>
  σ8
  else
  bnd (f_X5_goOn σ3 x1 1 (σ3 12 x2.toNatClampNeg)) fun σ7 =>
  σ7))
  else
  (if (σ3 32 x1.toNatClampNeg) = (σ3 13 x2.toNatClampNeg) then
  bnd (f_X5_ends σ3 (σ3 31 x1.toNatClampNeg)) fun σ6 =>
  σ6
  else
  (if kd = 3 then
  bnd (f_X5_goOn σ3 x1 1 (σ3 13 x2.toNatClampNeg)) fun σ5 =>
  σ5
  else
  bnd (f_X5_goOn σ3 x1 1 (σ3 12 x2.toNatClampNeg)) fun σ4 =>
  σ4))))
  else
  bnd (f_X5_passes σ) fun σ18 =>
  σ18)
  else
  bnd (f_X5_passes σ) fun σ1 =>
  σ1)
set_option maxRecDepth 100000 in
set_option maxHeartbeats 4000000 in
theorem b_X5_goAct_102 {p : Program} {l : Launch} {e : Env} {s : State} {m : MethodId} {args : Array Value} {below : List Frame} {meth : Method} {c : Code} {D : va_G} {cI : ClassId} {ad : Nat → Nat} {w0 : va_W} {X : Mem} (S : CallFix p m c cX5_goAct 5 s args wsX5_goAct RX5) (hr : meth.sig.returnType = none) (hlocks : meth.locks = false) (hK : va_K D vwCl [(cI, .int)] s) (hA : ∀ q, s.heap.size ≤ q → va_A w0 s.heap.size q) (σ : Mem) (x1 : Int32) (x2 : Int32) (kd : Int32) (hat : vp_in x1 300) (hxi : vp_in x2 40) (ht : ¬ σ 0 26 = 300 → vp_in (σ 0 25) 300) (hf : f_X5_goAct_102 σ x1 x2 kd = X) (H : Heap) (locs : List Loc) (hG : wI D vwCl (va_A w0 s.heap.size) s.heap H locs (RW ad cI σ)) (ls : Array Slot) (hl : lv_has ls 5 [(0, .ref (ad 0)), (1, .int x1), (2, .int x2), (3, .int kd)]) : W p l e ({ frames := 3, cells := 0, slots := 0, locals := 71 } : Room) s m args below meth c H locs 0 0 (MQ below (va_Qv (fun (u : Mem) => u = X) (fun u t => wPost D vwCl w0 s.heap.size ((fun u => RW ad cI u) u) t) (va_A w0 s.heap.size)) args s 0 0 (va_A w0 s.heap.size)) (F0 m 102 ls []) := by
  have hin := in_X5_goAct
  unfold f_X5_goAct_102 at hf
  refine lv_aload_n S.1 S.2.1 dX5_goAct_102 rfl (lv_at hl 0 rfl) ?_
  refine M_get S hin hK hG 35 (by decide) (by decide +kernel) rfl dX5_goAct_103 ?_
  refine lv_if_ne (tgt := 114) S.1 S.2.1 dX5_goAct_106 (by decide) (fun c_106 => ?_) (fun c_106 => ?_)
  · have hf := ite_n c_106 hf
    refine lv_aload_n S.1 S.2.1 dX5_goAct_114 rfl (lv_at hl 0 rfl) ?_
    refine r_callVv S hK hA hG (k_X5_passes l _ _ _ _) (cwV 0 S.2.2.2.2 gX5_goAct_X5_passes rfl rfl rfl (by decide +kernel) ⟨Nat.le_of_ble_eq_true rfl, Nat.le_of_ble_eq_true rfl⟩) (va_recv hK hG.1 (ci := 5) (q0 := 0) rfl rfl) rfl hl.1 rfl (Nat.le_of_ble_eq_true rfl) dX5_goAct_115 ⟨Nat.le_of_ble_eq_true rfl, Nat.le_of_ble_eq_true rfl⟩ (fun σ1 H locs e_σ1 hG => ?_)
    have hf := bnd_p e_σ1 hf
    exact r_vret S hr hlocks hG _ rfl hf dX5_goAct_118
  · have hf := ite_p c_106 hf
    refine lv_iload_n S.1 S.2.1 dX5_goAct_109 rfl (lv_at hl 3 rfl) ?_
    refine lv_iconst (v := 5) S.1 S.2.1 dX5_goAct_110 (by decide) ?_
    refine lv_icmp_le (tgt := 119) S.1 S.2.1 dX5_goAct_111 (by decide) (fun c_111 => ?_) (fun c_111 => ?_)
    · have hf := ite_p c_111 hf
      refine lv_iload_n S.1 S.2.1 dX5_goAct_119 rfl (lv_at hl 3 rfl) ?_
      refine lv_iconst (v := 2) S.1 S.2.1 dX5_goAct_120 (by decide) ?_
      refine lv_icmp_ne (tgt := 189) S.1 S.2.1 dX5_goAct_121 (by decide) (fun c_121 => ?_) (fun c_121 => ?_)
      · have hf := ite_n c_121 hf
        refine lv_aload_n S.1 S.2.1 dX5_goAct_189 rfl (lv_at hl 0 rfl) ?_
        refine M_get S hin hK hG 30 (by decide) (by decide +kernel) rfl dX5_goAct_190 ?_
        refine lv_iload_n S.1 S.2.1 dX5_goAct_193 rfl (lv_at hl 1 rfl) ?_
        refine lv_dup2_11 S.1 S.2.1 dX5_goAct_194 rfl rfl ?_
        refine r_iald S hK hG 20 0 rfl rfl hat dX5_goAct_195 ?_
        refine lv_aload_n S.1 S.2.1 dX5_goAct_196 rfl (lv_at hl 0 rfl) ?_
        refine M_get S hin hK hG 34 (by decide) (by decide +kernel) rfl dX5_goAct_197 ?_
        refine lv_iadd S.1 S.2.1 dX5_goAct_200 ?_
        refine M_ast S hK hG 31 20 300 rfl hat (RWs_31 _ _ _ _ _) dX5_goAct_201 (fun σ2 H locs e_σ2 hG => ?_)
        have hf := bnd_p e_σ2 hf
        refine lv_aload_n S.1 S.2.1 dX5_goAct_202 rfl (lv_at hl 0 rfl) ?_
        refine M_get S hin hK hG 31 (by decide) (by decide +kernel) rfl dX5_goAct_203 ?_
        refine lv_iload_n S.1 S.2.1 dX5_goAct_206 rfl (lv_at hl 1 rfl) ?_
        refine lv_dup2_11 S.1 S.2.1 dX5_goAct_207 rfl rfl ?_
        refine r_iald S hK hG 21 0 rfl rfl hat dX5_goAct_208 ?_
        refine lv_iconst (v := 1) S.1 S.2.1 dX5_goAct_209 (by decide) ?_
        refine lv_iadd S.1 S.2.1 dX5_goAct_210 ?_
        refine M_ast S hK hG 32 21 300 rfl hat (RWs_32 _ _ _ _ _) dX5_goAct_211 (fun σ3 H locs e_σ3 hG => ?_)
        have hf := bnd_p e_σ3 hf
        refine lv_aload_n S.1 S.2.1 dX5_goAct_212 rfl (lv_at hl 0 rfl) ?_
        refine M_get S hin hK hG 31 (by decide) (by decide +kernel) rfl dX5_goAct_213 ?_
        refine lv_iload_n S.1 S.2.1 dX5_goAct_216 rfl (lv_at hl 1 rfl) ?_
        refine r_iald S hK hG 21 0 rfl rfl hat dX5_goAct_217 ?_
        refine lv_iload_n S.1 S.2.1 dX5_goAct_218 rfl (lv_at hl 3 rfl) ?_
        refine lv_iconst (v := 3) S.1 S.2.1 dX5_goAct_219 (by decide) ?_
        refine lv_icmp_ne (tgt := 227) S.1 S.2.1 dX5_goAct_220 (by decide) (fun c_220 => ?_) (fun c_220 => ?_)
        · have hf := ite_n c_220 hf
          refine lv_aload_n S.1 S.2.1 dX5_goAct_227 rfl (lv_at hl 0 rfl) ?_
          refine M_get S hin hK hG 12 (by decide) (by decide +kernel) rfl dX5_goAct_228 ?_
          refine lv_iload_n S.1 S.2.1 dX5_goAct_231 rfl (lv_at hl 2 rfl) ?_
          refine r_iald S hK hG 10 0 rfl rfl hxi dX5_goAct_232 ?_
          refine lv_icmp_ne (tgt := 249) S.1 S.2.1 dX5_goAct_233 (by decide) (fun c_233 => ?_) (fun c_233 => ?_)
          · have hf := ite_n c_233 hf
            refine lv_aload_n S.1 S.2.1 dX5_goAct_249 rfl (lv_at hl 0 rfl) ?_
            refine lv_iload_n S.1 S.2.1 dX5_goAct_250 rfl (lv_at hl 1 rfl) ?_
            refine lv_iconst (v := 1) S.1 S.2.1 dX5_goAct_251 (by decide) ?_
            refine lv_iload_n S.1 S.2.1 dX5_goAct_252 rfl (lv_at hl 3 rfl) ?_
            refine lv_iconst (v := 3) S.1 S.2.1 dX5_goAct_253 (by decide) ?_
            refine lv_icmp_ne (tgt := 266) S.1 S.2.1 dX5_goAct_254 (by decide) (fun c_254 => ?_) (fun c_254 => ?_)
            · have hf := ite_n c_254 hf
              refine lv_aload_n S.1 S.2.1 dX5_goAct_266 rfl (lv_at hl 0 rfl) ?_
              refine M_get S hin hK hG 11 (by decide) (by decide +kernel) rfl dX5_goAct_267 ?_
              refine lv_iload_n S.1 S.2.1 dX5_goAct_270 rfl (lv_at hl 2 rfl) ?_
              refine r_iald S hK hG 9 0 rfl rfl hxi dX5_goAct_271 ?_
              refine r_callVv S hK hA hG (k_X5_goOn l _ _ _ _ _ _ _ hat (by rw [e_σ3, e_σ2]; exact ht)) (cwV 3 S.2.2.2.2 gX5_goAct_X5_goOn rfl rfl rfl (by decide +kernel) ⟨Nat.le_of_ble_eq_true rfl, Nat.le_of_ble_eq_true rfl⟩) (va_recv hK hG.1 (ci := 5) (q0 := 0) rfl rfl) rfl hl.1 rfl (Nat.le_of_ble_eq_true rfl) dX5_goAct_272 ⟨Nat.le_of_ble_eq_true rfl, Nat.le_of_ble_eq_true rfl⟩ (fun σ4 H locs e_σ4 hG => ?_)
              have hf := bnd_p e_σ4 hf
              exact r_vret S hr hlocks hG _ rfl hf dX5_goAct_275
            · have hf := ite_p c_254 hf
              refine lv_aload_n S.1 S.2.1 dX5_goAct_257 rfl (lv_at hl 0 rfl) ?_
              refine M_get S hin hK hG 12 (by decide) (by decide +kernel) rfl dX5_goAct_258 ?_
              refine lv_iload_n S.1 S.2.1 dX5_goAct_261 rfl (lv_at hl 2 rfl) ?_
              refine r_iald S hK hG 10 0 rfl rfl hxi dX5_goAct_262 ?_
              refine lv_goto (tgt := 272) S.1 S.2.1 dX5_goAct_263 (by decide) ?_
              refine r_callVv S hK hA hG (k_X5_goOn l _ _ _ _ _ _ _ hat (by rw [e_σ3, e_σ2]; exact ht)) (cwV 3 S.2.2.2.2 gX5_goAct_X5_goOn rfl rfl rfl (by decide +kernel) ⟨Nat.le_of_ble_eq_true rfl, Nat.le_of_ble_eq_true rfl⟩) (va_recv hK hG.1 (ci := 5) (q0 := 0) rfl rfl) rfl hl.1 rfl (Nat.le_of_ble_eq_true rfl) dX5_goAct_272 ⟨Nat.le_of_ble_eq_true rfl, Nat.le_of_ble_eq_true rfl⟩ (fun σ5 H locs e_σ5 hG => ?_)
              have hf := bnd_p e_σ5 hf
              exact r_vret S hr hlocks hG _ rfl hf dX5_goAct_275
          · have hf := ite_p c_233 hf
            refine lv_aload_n S.1 S.2.1 dX5_goAct_236 rfl (lv_at hl 0 rfl) ?_
            refine lv_aload_n S.1 S.2.1 dX5_goAct_237 rfl (lv_at hl 0 rfl) ?_
            refine M_get S hin hK hG 30 (by decide) (by decide +kernel) rfl dX5_goAct_238 ?_
            refine lv_iload_n S.1 S.2.1 dX5_goAct_241 rfl (lv_at hl 1 rfl) ?_
            refine r_iald S hK hG 20 0 rfl rfl hat dX5_goAct_242 ?_
            refine r_callVv S hK hA hG (k_X5_ends l _ _ _ _ _) (cwV 1 S.2.2.2.2 gX5_goAct_X5_ends rfl rfl rfl (by decide +kernel) ⟨Nat.le_of_ble_eq_true rfl, Nat.le_of_ble_eq_true rfl⟩) (va_recv hK hG.1 (ci := 5) (q0 := 0) rfl rfl) rfl hl.1 rfl (Nat.le_of_ble_eq_true rfl) dX5_goAct_243 ⟨Nat.le_of_ble_eq_true rfl, Nat.le_of_ble_eq_true rfl⟩ (fun σ6 H locs e_σ6 hG => ?_)
            have hf := bnd_p e_σ6 hf
            refine lv_goto (tgt := 275) S.1 S.2.1 dX5_goAct_246 (by decide) ?_
            exact r_vret S hr hlocks hG _ rfl hf dX5_goAct_275
        · have hf := ite_p c_220 hf
          refine lv_iconst (v := 2) S.1 S.2.1 dX5_goAct_223 (by decide) ?_
          refine lv_goto (tgt := 233) S.1 S.2.1 dX5_goAct_224 (by decide) ?_
          refine lv_icmp_ne (tgt := 249) S.1 S.2.1 dX5_goAct_233 (by decide) (fun c_233 => ?_) (fun c_233 => ?_)
          · have hf := ite_n c_233 hf
            refine lv_aload_n S.1 S.2.1 dX5_goAct_249 rfl (lv_at hl 0 rfl) ?_
            refine lv_iload_n S.1 S.2.1 dX5_goAct_250 rfl (lv_at hl 1 rfl) ?_
            refine lv_iconst (v := 1) S.1 S.2.1 dX5_goAct_251 (by decide) ?_
            refine lv_iload_n S.1 S.2.1 dX5_goAct_252 rfl (lv_at hl 3 rfl) ?_
            refine lv_iconst (v := 3) S.1 S.2.1 dX5_goAct_253 (by decide) ?_
            refine lv_icmp_ne (tgt := 266) S.1 S.2.1 dX5_goAct_254 (by decide) (fun c_254 => ?_) (fun c_254 => ?_)
            · have hf := ite_n c_254 hf
              refine lv_aload_n S.1 S.2.1 dX5_goAct_266 rfl (lv_at hl 0 rfl) ?_
              refine M_get S hin hK hG 11 (by decide) (by decide +kernel) rfl dX5_goAct_267 ?_
              refine lv_iload_n S.1 S.2.1 dX5_goAct_270 rfl (lv_at hl 2 rfl) ?_
              refine r_iald S hK hG 9 0 rfl rfl hxi dX5_goAct_271 ?_
              refine r_callVv S hK hA hG (k_X5_goOn l _ _ _ _ _ _ _ hat (by rw [e_σ3, e_σ2]; exact ht)) (cwV 3 S.2.2.2.2 gX5_goAct_X5_goOn rfl rfl rfl (by decide +kernel) ⟨Nat.le_of_ble_eq_true rfl, Nat.le_of_ble_eq_true rfl⟩) (va_recv hK hG.1 (ci := 5) (q0 := 0) rfl rfl) rfl hl.1 rfl (Nat.le_of_ble_eq_true rfl) dX5_goAct_272 ⟨Nat.le_of_ble_eq_true rfl, Nat.le_of_ble_eq_true rfl⟩ (fun σ7 H locs e_σ7 hG => ?_)
              have hf := bnd_p e_σ7 hf
              exact r_vret S hr hlocks hG _ rfl hf dX5_goAct_275
            · have hf := ite_p c_254 hf
              refine lv_aload_n S.1 S.2.1 dX5_goAct_257 rfl (lv_at hl 0 rfl) ?_
              refine M_get S hin hK hG 12 (by decide) (by decide +kernel) rfl dX5_goAct_258 ?_
              refine lv_iload_n S.1 S.2.1 dX5_goAct_261 rfl (lv_at hl 2 rfl) ?_
              refine r_iald S hK hG 10 0 rfl rfl hxi dX5_goAct_262 ?_
              refine lv_goto (tgt := 272) S.1 S.2.1 dX5_goAct_263 (by decide) ?_
              refine r_callVv S hK hA hG (k_X5_goOn l _ _ _ _ _ _ _ hat (by rw [e_σ3, e_σ2]; exact ht)) (cwV 3 S.2.2.2.2 gX5_goAct_X5_goOn rfl rfl rfl (by decide +kernel) ⟨Nat.le_of_ble_eq_true rfl, Nat.le_of_ble_eq_true rfl⟩) (va_recv hK hG.1 (ci := 5) (q0 := 0) rfl rfl) rfl hl.1 rfl (Nat.le_of_ble_eq_true rfl) dX5_goAct_272 ⟨Nat.le_of_ble_eq_true rfl, Nat.le_of_ble_eq_true rfl⟩ (fun σ8 H locs e_σ8 hG => ?_)
              have hf := bnd_p e_σ8 hf
              exact r_vret S hr hlocks hG _ rfl hf dX5_goAct_275
          · have hf := ite_p c_233 hf
            refine lv_aload_n S.1 S.2.1 dX5_goAct_236 rfl (lv_at hl 0 rfl) ?_
            refine lv_aload_n S.1 S.2.1 dX5_goAct_237 rfl (lv_at hl 0 rfl) ?_
            refine M_get S hin hK hG 30 (by decide) (by decide +kernel) rfl dX5_goAct_238 ?_
            refine lv_iload_n S.1 S.2.1 dX5_goAct_241 rfl (lv_at hl 1 rfl) ?_
            refine r_iald S hK hG 20 0 rfl rfl hat dX5_goAct_242 ?_
            refine r_callVv S hK hA hG (k_X5_ends l _ _ _ _ _) (cwV 1 S.2.2.2.2 gX5_goAct_X5_ends rfl rfl rfl (by decide +kernel) ⟨Nat.le_of_ble_eq_true rfl, Nat.le_of_ble_eq_true rfl⟩) (va_recv hK hG.1 (ci := 5) (q0 := 0) rfl rfl) rfl hl.1 rfl (Nat.le_of_ble_eq_true rfl) dX5_goAct_243 ⟨Nat.le_of_ble_eq_true rfl, Nat.le_of_ble_eq_true rfl⟩ (fun σ9 H locs e_σ9 hG => ?_)
            have hf := bnd_p e_σ9 hf
            refine lv_goto (tgt := 275) S.1 S.2.1 dX5_goAct_246 (by decide) ?_
            exact r_vret S hr hlocks hG _ rfl hf dX5_goAct_275
      · have hf := ite_p c_121 hf
        refine lv_aload_n S.1 S.2.1 dX5_goAct_124 rfl (lv_at hl 0 rfl) ?_
        refine M_get S hin hK hG 34 (by decide) (by decide +kernel) rfl dX5_goAct_125 ?_
        refine lv_iconst (v := 1) S.1 S.2.1 dX5_goAct_128 (by decide) ?_
        refine lv_icmp_ne (tgt := 141) S.1 S.2.1 dX5_goAct_129 (by decide) (fun c_129 => ?_) (fun c_129 => ?_)
        · have hf := ite_n c_129 hf
          refine lv_aload_n S.1 S.2.1 dX5_goAct_141 rfl (lv_at hl 0 rfl) ?_
          refine M_get S hin hK hG 13 (by decide) (by decide +kernel) rfl dX5_goAct_142 ?_
          refine lv_iload_n S.1 S.2.1 dX5_goAct_145 rfl (lv_at hl 2 rfl) ?_
          refine r_iald S hK hG 11 0 rfl rfl hxi dX5_goAct_146 ?_
          refine lv_topi (fun v10 e_v10 => ?_)
          have hf := bnd_p e_v10 hf
          refine lv_istore (lv' := [(4, .int v10), (0, .ref (ad 0)), (1, .int x1), (2, .int x2), (3, .int kd)]) S.1 S.2.1 dX5_goAct_147 hl (by decide) rfl (fun ls hl => ?_)
          refine lv_aload_n S.1 S.2.1 dX5_goAct_149 rfl (lv_at hl 1 rfl) ?_
          refine M_get S hin hK hG 29 (by decide) (by decide +kernel) rfl dX5_goAct_150 ?_
          refine lv_iload_n S.1 S.2.1 dX5_goAct_153 rfl (lv_at hl 2 rfl) ?_
          refine r_iald S hK hG 19 0 rfl rfl hat dX5_goAct_154 ?_
          refine lv_iconst (v := 2) S.1 S.2.1 dX5_goAct_155 (by decide) ?_
          refine lv_icmp_ne (tgt := 166) S.1 S.2.1 dX5_goAct_156 (by decide) (fun c_156 => ?_) (fun c_156 => ?_)
          · have hf := ite_n c_156 hf
            refine lv_iload S.1 S.2.1 dX5_goAct_166 (lv_at hl 0 rfl) ?_
            refine lv_iconst (v := (-1)) S.1 S.2.1 dX5_goAct_168 (by decide) ?_
            refine lv_icmp_ne (tgt := 180) S.1 S.2.1 dX5_goAct_169 (by decide) (fun c_169 => ?_) (fun c_169 => ?_)
            · have hf := ite_n c_169 hf
              refine lv_aload_n S.1 S.2.1 dX5_goAct_180 rfl (lv_at hl 1 rfl) ?_
              refine lv_iload_n S.1 S.2.1 dX5_goAct_181 rfl (lv_at hl 2 rfl) ?_
              refine lv_iconst (v := 1) S.1 S.2.1 dX5_goAct_182 (by decide) ?_
              refine lv_iload S.1 S.2.1 dX5_goAct_183 (lv_at hl 0 rfl) ?_
              refine r_callVv S hK hA hG (k_X5_goOn l _ _ _ _ _ _ _ hat ht) (cwV 3 S.2.2.2.2 gX5_goAct_X5_goOn rfl rfl rfl (by decide +kernel) ⟨Nat.le_of_ble_eq_true rfl, Nat.le_of_ble_eq_true rfl⟩) (va_recv hK hG.1 (ci := 5) (q0 := 0) rfl rfl) rfl hl.1 rfl (Nat.le_of_ble_eq_true rfl) dX5_goAct_185 ⟨Nat.le_of_ble_eq_true rfl, Nat.le_of_ble_eq_true rfl⟩ (fun σ11 H locs e_σ11 hG => ?_)
              have hf := bnd_p e_σ11 hf
              exact r_vret S hr hlocks hG _ rfl hf dX5_goAct_188
            · have hf := ite_p c_169 hf
              refine lv_aload_n S.1 S.2.1 dX5_goAct_172 rfl (lv_at hl 1 rfl) ?_
              refine lv_iconst (v := 0) S.1 S.2.1 dX5_goAct_173 (by decide) ?_
              refine r_callVv S hK hA hG (k_X5_ends l _ _ _ _ _) (cwV 1 S.2.2.2.2 gX5_goAct_X5_ends rfl rfl rfl (by decide +kernel) ⟨Nat.le_of_ble_eq_true rfl, Nat.le_of_ble_eq_true rfl⟩) (va_recv hK hG.1 (ci := 5) (q0 := 0) rfl rfl) rfl hl.1 rfl (Nat.le_of_ble_eq_true rfl) dX5_goAct_174 ⟨Nat.le_of_ble_eq_true rfl, Nat.le_of_ble_eq_true rfl⟩ (fun σ12 H locs e_σ12 hG => ?_)
              have hf := bnd_p e_σ12 hf
              refine lv_goto (tgt := 188) S.1 S.2.1 dX5_goAct_177 (by decide) ?_
              exact r_vret S hr hlocks hG _ rfl hf dX5_goAct_188
          · have hf := ite_p c_156 hf
            refine lv_aload_n S.1 S.2.1 dX5_goAct_159 rfl (lv_at hl 1 rfl) ?_
            refine r_callVv S hK hA hG (k_X5_passes l _ _ _ _) (cwV 0 S.2.2.2.2 gX5_goAct_X5_passes rfl rfl rfl (by decide +kernel) ⟨Nat.le_of_ble_eq_true rfl, Nat.le_of_ble_eq_true rfl⟩) (va_recv hK hG.1 (ci := 5) (q0 := 0) rfl rfl) rfl hl.1 rfl (Nat.le_of_ble_eq_true rfl) dX5_goAct_160 ⟨Nat.le_of_ble_eq_true rfl, Nat.le_of_ble_eq_true rfl⟩ (fun σ13 H locs e_σ13 hG => ?_)
            have hf := bnd_p e_σ13 hf
            refine lv_goto (tgt := 188) S.1 S.2.1 dX5_goAct_163 (by decide) ?_
            exact r_vret S hr hlocks hG _ rfl hf dX5_goAct_188
        · have hf := ite_p c_129 hf
          refine lv_aload_n S.1 S.2.1 dX5_goAct_132 rfl (lv_at hl 0 rfl) ?_
          refine M_get S hin hK hG 12 (by decide) (by decide +kernel) rfl dX5_goAct_133 ?_
          refine lv_iload_n S.1 S.2.1 dX5_goAct_136 rfl (lv_at hl 2 rfl) ?_
          refine r_iald S hK hG 10 0 rfl rfl hxi dX5_goAct_137 ?_
          refine lv_goto (tgt := 147) S.1 S.2.1 dX5_goAct_138 (by decide) ?_
          refine lv_topi (fun v14 e_v14 => ?_)
          have hf := bnd_p e_v14 hf
          refine lv_istore (lv' := [(4, .int v14), (0, .ref (ad 0)), (1, .int x1), (2, .int x2), (3, .int kd)]) S.1 S.2.1 dX5_goAct_147 hl (by decide) rfl (fun ls hl => ?_)
          refine lv_aload_n S.1 S.2.1 dX5_goAct_149 rfl (lv_at hl 1 rfl) ?_
          refine M_get S hin hK hG 29 (by decide) (by decide +kernel) rfl dX5_goAct_150 ?_
          refine lv_iload_n S.1 S.2.1 dX5_goAct_153 rfl (lv_at hl 2 rfl) ?_
          refine r_iald S hK hG 19 0 rfl rfl hat dX5_goAct_154 ?_
          refine lv_iconst (v := 2) S.1 S.2.1 dX5_goAct_155 (by decide) ?_
          refine lv_icmp_ne (tgt := 166) S.1 S.2.1 dX5_goAct_156 (by decide) (fun c_156 => ?_) (fun c_156 => ?_)
          · have hf := ite_n c_156 hf
            refine lv_iload S.1 S.2.1 dX5_goAct_166 (lv_at hl 0 rfl) ?_
            refine lv_iconst (v := (-1)) S.1 S.2.1 dX5_goAct_168 (by decide) ?_
            refine lv_icmp_ne (tgt := 180) S.1 S.2.1 dX5_goAct_169 (by decide) (fun c_169 => ?_) (fun c_169 => ?_)
            · have hf := ite_n c_169 hf
              refine lv_aload_n S.1 S.2.1 dX5_goAct_180 rfl (lv_at hl 1 rfl) ?_
              refine lv_iload_n S.1 S.2.1 dX5_goAct_181 rfl (lv_at hl 2 rfl) ?_
              refine lv_iconst (v := 1) S.1 S.2.1 dX5_goAct_182 (by decide) ?_
              refine lv_iload S.1 S.2.1 dX5_goAct_183 (lv_at hl 0 rfl) ?_
              refine r_callVv S hK hA hG (k_X5_goOn l _ _ _ _ _ _ _ hat ht) (cwV 3 S.2.2.2.2 gX5_goAct_X5_goOn rfl rfl rfl (by decide +kernel) ⟨Nat.le_of_ble_eq_true rfl, Nat.le_of_ble_eq_true rfl⟩) (va_recv hK hG.1 (ci := 5) (q0 := 0) rfl rfl) rfl hl.1 rfl (Nat.le_of_ble_eq_true rfl) dX5_goAct_185 ⟨Nat.le_of_ble_eq_true rfl, Nat.le_of_ble_eq_true rfl⟩ (fun σ15 H locs e_σ15 hG => ?_)
              have hf := bnd_p e_σ15 hf
              exact r_vret S hr hlocks hG _ rfl hf dX5_goAct_188
            · have hf := ite_p c_169 hf
              refine lv_aload_n S.1 S.2.1 dX5_goAct_172 rfl (lv_at hl 1 rfl) ?_
              refine lv_iconst (v := 0) S.1 S.2.1 dX5_goAct_173 (by decide) ?_
              refine r_callVv S hK hA hG (k_X5_ends l _ _ _ _ _) (cwV 1 S.2.2.2.2 gX5_goAct_X5_ends rfl rfl rfl (by decide +kernel) ⟨Nat.le_of_ble_eq_true rfl, Nat.le_of_ble_eq_true rfl⟩) (va_recv hK hG.1 (ci := 5) (q0 := 0) rfl rfl) rfl hl.1 rfl (Nat.le_of_ble_eq_true rfl) dX5_goAct_174 ⟨Nat.le_of_ble_eq_true rfl, Nat.le_of_ble_eq_true rfl⟩ (fun σ16 H locs e_σ16 hG => ?_)
              have hf := bnd_p e_σ16 hf
              refine lv_goto (tgt := 188) S.1 S.2.1 dX5_goAct_177 (by decide) ?_
              exact r_vret S hr hlocks hG _ rfl hf dX5_goAct_188
          · have hf := ite_p c_156 hf
            refine lv_aload_n S.1 S.2.1 dX5_goAct_159 rfl (lv_at hl 1 rfl) ?_
            refine r_callVv S hK hA hG (k_X5_passes l _ _ _ _) (cwV 0 S.2.2.2.2 gX5_goAct_X5_passes rfl rfl rfl (by decide +kernel) ⟨Nat.le_of_ble_eq_true rfl, Nat.le_of_ble_eq_true rfl⟩) (va_recv hK hG.1 (ci := 5) (q0 := 0) rfl rfl) rfl hl.1 rfl (Nat.le_of_ble_eq_true rfl) dX5_goAct_160 ⟨Nat.le_of_ble_eq_true rfl, Nat.le_of_ble_eq_true rfl⟩ (fun σ17 H locs e_σ17 hG => ?_)
            have hf := bnd_p e_σ17 hf
            refine lv_goto (tgt := 188) S.1 S.2.1 dX5_goAct_163 (by decide) ?_
            exact r_vret S hr hlocks hG _ rfl hf dX5_goAct_188
    · have hf := ite_n c_111 hf
      refine lv_aload_n S.1 S.2.1 dX5_goAct_114 rfl (lv_at hl 0 rfl) ?_
      refine r_callVv S hK hA hG (k_X5_passes l _ _ _ _) (cwV 0 S.2.2.2.2 gX5_goAct_X5_passes rfl rfl rfl (by decide +kernel) ⟨Nat.le_of_ble_eq_true rfl, Nat.le_of_ble_eq_true rfl⟩) (va_recv hK hG.1 (ci := 5) (q0 := 0) rfl rfl) rfl hl.1 rfl (Nat.le_of_ble_eq_true rfl) dX5_goAct_115 ⟨Nat.le_of_ble_eq_true rfl, Nat.le_of_ble_eq_true rfl⟩ (fun σ18 H locs e_σ18 hG => ?_)
      have hf := bnd_p e_σ18 hf
      exact r_vret S hr hlocks hG _ rfl hf dX5_goAct_118
def f_X5_goAct_57 : Nat → Mem → Int32 → Int32 → Int32 → Int32 → Mem
  | 0, σ, _, _, _, _ => σ
  | n + 1, σ, x1, x2, kd, t =>
  (if 6 ≤ t then
  bnd (f_X5_goOn σ x1 1 (σ 13 x2.toNatClampNeg)) fun σ1 =>
  σ1
  else
  bnd (mset σ 2 t.toNatClampNeg (σ 33 ((6 * x1) + t).toNatClampNeg)) fun σ2 =>
  bnd (t + 1) fun v3 =>
  f_X5_goAct_57 n σ2 x1 x2 kd v3)
set_option maxRecDepth 100000 in
set_option maxHeartbeats 4000000 in
theorem b_X5_goAct_57 {p : Program} {l : Launch} {e : Env} {s : State} {m : MethodId} {args : Array Value} {below : List Frame} {meth : Method} {c : Code} {D : va_G} {cI : ClassId} {ad : Nat → Nat} {w0 : va_W} {X : Mem} (S : CallFix p m c cX5_goAct 5 s args wsX5_goAct RX5) (hr : meth.sig.returnType = none) (hlocks : meth.locks = false) (hK : va_K D vwCl [(cI, .int)] s) (hA : ∀ q, s.heap.size ≤ q → va_A w0 s.heap.size q) : ∀ (n : Nat) (σ : Mem) (x1 : Int32) (x2 : Int32) (kd : Int32) (t : Int32) (hat : vp_in x1 300) (hxi : vp_in x2 40) (ht : ¬ σ 0 26 = 300 → vp_in (σ 0 25) 300) (hi : ∃ k : Nat, t = nI k ∧ k ≤ 6 ∧ 7 ≤ k + n), f_X5_goAct_57 n σ x1 x2 kd t = X → ∀ (H : Heap) (locs : List Loc), wI D vwCl (va_A w0 s.heap.size) s.heap H locs (RW ad cI σ) → ∀ (ls : Array Slot), lv_has ls 5 [(0, .ref (ad 0)), (1, .int x1), (2, .int x2), (3, .int kd), (4, .int t)] → W p l e ({ frames := 3, cells := 0, slots := 0, locals := 71 } : Room) s m args below meth c H locs 0 0 (MQ below (va_Qv (fun (u : Mem) => u = X) (fun u t => wPost D vwCl w0 s.heap.size ((fun u => RW ad cI u) u) t) (va_A w0 s.heap.size)) args s 0 0 (va_A w0 s.heap.size)) (F0 m 57 ls []) := by
  have hin := in_X5_goAct
  intro n
  induction n with
  | zero =>
    intro σ x1 x2 kd t hat hxi ht hi
    exact (by obtain ⟨k, -, h1, h2⟩ := hi; omega)
  | succ n ih =>
    intro σ x1 x2 kd t hat hxi ht hi hf H locs hG ls hl
    unfold f_X5_goAct_57 at hf
    refine lv_iload S.1 S.2.1 dX5_goAct_57 (lv_at hl 4 rfl) ?_
    refine lv_bipush (v := 6) S.1 S.2.1 dX5_goAct_59 (by decide) ?_
    refine lv_icmp_ge (tgt := 89) S.1 S.2.1 dX5_goAct_61 (by decide) (fun c_61 => ?_) (fun c_61 => ?_)
    · have hf := ite_p c_61 hf
      refine lv_aload_n S.1 S.2.1 dX5_goAct_89 rfl (lv_at hl 0 rfl) ?_
      refine lv_iload_n S.1 S.2.1 dX5_goAct_90 rfl (lv_at hl 1 rfl) ?_
      refine lv_iconst (v := 1) S.1 S.2.1 dX5_goAct_91 (by decide) ?_
      refine lv_aload_n S.1 S.2.1 dX5_goAct_92 rfl (lv_at hl 0 rfl) ?_
      refine M_get S hin hK hG 12 (by decide) (by decide +kernel) rfl dX5_goAct_93 ?_
      refine lv_iload_n S.1 S.2.1 dX5_goAct_96 rfl (lv_at hl 2 rfl) ?_
      refine r_iald S hK hG 10 0 rfl rfl hxi dX5_goAct_97 ?_
      refine r_callVv S hK hA hG (k_X5_goOn l _ _ _ _ _ _ _ hat ht) (cwV 3 S.2.2.2.2 gX5_goAct_X5_goOn rfl rfl rfl (by decide +kernel) ⟨Nat.le_of_ble_eq_true rfl, Nat.le_of_ble_eq_true rfl⟩) (va_recv hK hG.1 (ci := 5) (q0 := 0) rfl rfl) rfl hl.1 rfl (Nat.le_of_ble_eq_true rfl) dX5_goAct_98 ⟨Nat.le_of_ble_eq_true rfl, Nat.le_of_ble_eq_true rfl⟩ (fun σ1 H locs e_σ1 hG => ?_)
      have hf := bnd_p e_σ1 hf
      exact r_vret S hr hlocks hG _ rfl hf dX5_goAct_101
    · have hf := ite_n c_61 hf
      refine lv_aload_n S.1 S.2.1 dX5_goAct_64 rfl (lv_at hl 0 rfl) ?_
      refine M_get S hin hK hG 1 (by decide) (by decide +kernel) rfl dX5_goAct_65 ?_
      refine lv_iload S.1 S.2.1 dX5_goAct_68 (lv_at hl 4 rfl) ?_
      refine lv_aload_n S.1 S.2.1 dX5_goAct_70 rfl (lv_at hl 0 rfl) ?_
      refine M_get S hin hK hG 32 (by decide) (by decide +kernel) rfl dX5_goAct_71 ?_
      refine lv_bipush (v := 6) S.1 S.2.1 dX5_goAct_74 (by decide) ?_
      refine lv_iload_n S.1 S.2.1 dX5_goAct_76 rfl (lv_at hl 1 rfl) ?_
      refine lv_imul S.1 S.2.1 dX5_goAct_77 ?_
      refine lv_iload S.1 S.2.1 dX5_goAct_78 (lv_at hl 4 rfl) ?_
      refine lv_iadd S.1 S.2.1 dX5_goAct_80 ?_
      refine r_iald S hK hG 22 0 rfl rfl (ri_sav hat hi c_61) dX5_goAct_81 ?_
      refine M_ast S hK hG 2 2 6 rfl (ri_t6 hi c_61) (RWs_2 _ _ _ _ _) dX5_goAct_82 (fun σ2 H locs e_σ2 hG => ?_)
      have hf := bnd_p e_σ2 hf
      obtain ⟨v3, e_v3⟩ : ∃ z : Int32, z = t + 1 := ⟨_, rfl⟩
      have hf := bnd_p e_v3 hf
      refine lv_iinc (v := v3) (lv' := [(4, .int v3), (0, .ref (ad 0)), (1, .int x1), (2, .int x2), (3, .int kd)]) S.1 S.2.1 dX5_goAct_83 hl (k := 4) rfl (by rw [e_v3]; rfl) (by decide) rfl (fun ls hl => ?_)
      refine lv_goto (tgt := 57) S.1 S.2.1 dX5_goAct_86 (by decide) ?_
      exact ih σ2 x1 x2 kd v3 (hat) (hxi) (by rw [e_σ2]; exact ht) (ri_loop hi c_61 e_v3) hf H locs hG ls (lv_sub hl [1, 2, 3, 4, 0] rfl)
def f_X5_goAct (σ : Mem) (x1 : Int32) (x2 : Int32) : Mem :=
  (if (σ 30 x1.toNatClampNeg) = 0 then
  bnd (f_X5_begins σ x1 x2) fun σ2 =>
  σ2
  else
  bnd (σ 11 x2.toNatClampNeg) fun v1 =>
  (if v1 = 6 then
  (if (σ 30 x1.toNatClampNeg) = 1 then
  (if (σ 0 35) = 0 then
  f_X5_goAct_102 σ x1 x2 v1
  else
  (if (σ 0 35) = 5 then
  f_X5_goAct_102 σ x1 x2 v1
  else
  f_X5_goAct_57 7 σ x1 x2 v1 0))
  else
  f_X5_goAct_102 σ x1 x2 v1)
  else
  f_X5_goAct_102 σ x1 x2 v1))
set_option maxRecDepth 100000 in
set_option maxHeartbeats 4000000 in
theorem b_X5_goAct_0 {p : Program} {l : Launch} {e : Env} {s : State} {m : MethodId} {args : Array Value} {below : List Frame} {meth : Method} {c : Code} {D : va_G} {cI : ClassId} {ad : Nat → Nat} {w0 : va_W} {X : Mem} (S : CallFix p m c cX5_goAct 5 s args wsX5_goAct RX5) (hr : meth.sig.returnType = none) (hlocks : meth.locks = false) (hK : va_K D vwCl [(cI, .int)] s) (hA : ∀ q, s.heap.size ≤ q → va_A w0 s.heap.size q) (σ : Mem) (x1 : Int32) (x2 : Int32) (hat : vp_in x1 300) (hxi : vp_in x2 40) (k0 : σ 11 x2.toNatClampNeg = 0 → vp_in (σ 12 x2.toNatClampNeg) 6) (k1 : σ 11 x2.toNatClampNeg = 1 → vp_in (σ 12 x2.toNatClampNeg) 6 ∧ vp_in (σ 13 x2.toNatClampNeg) 6) (k8 : σ 11 x2.toNatClampNeg = 8 → vp_in (σ 12 x2.toNatClampNeg) 8 ∧ vp_in (σ 13 x2.toNatClampNeg) 6) (ht : ¬ σ 0 26 = 300 → vp_in (σ 0 25) 300) (hw : ¬ 60 ≤ σ 0 14 → vp_in (σ 0 14) 60) (hf : f_X5_goAct σ x1 x2 = X) (H : Heap) (locs : List Loc) (hG : wI D vwCl (va_A w0 s.heap.size) s.heap H locs (RW ad cI σ)) (ls : Array Slot) (hl : lv_has ls 5 [(0, .ref (ad 0)), (1, .int x1), (2, .int x2)]) : W p l e ({ frames := 3, cells := 0, slots := 0, locals := 71 } : Room) s m args below meth c H locs 0 0 (MQ below (va_Qv (fun (u : Mem) => u = X) (fun u t => wPost D vwCl w0 s.heap.size ((fun u => RW ad cI u) u) t) (va_A w0 s.heap.size)) args s 0 0 (va_A w0 s.heap.size)) (F0 m 0 ls []) := by
  have hin := in_X5_goAct
  unfold f_X5_goAct at hf
  refine lv_aload_n S.1 S.2.1 dX5_goAct_0 rfl (lv_at hl 0 rfl) ?_
  refine M_get S hin hK hG 29 (by decide) (by decide +kernel) rfl dX5_goAct_1 ?_
  refine lv_iload_n S.1 S.2.1 dX5_goAct_4 rfl (lv_at hl 1 rfl) ?_
  refine r_iald S hK hG 19 0 rfl rfl hat dX5_goAct_5 ?_
  refine lv_if_ne (tgt := 16) S.1 S.2.1 dX5_goAct_6 (by decide) (fun c_6 => ?_) (fun c_6 => ?_)
  · have hf := ite_n c_6 hf
    refine lv_aload_n S.1 S.2.1 dX5_goAct_16 rfl (lv_at hl 0 rfl) ?_
    refine M_get S hin hK hG 10 (by decide) (by decide +kernel) rfl dX5_goAct_17 ?_
    refine lv_iload_n S.1 S.2.1 dX5_goAct_20 rfl (lv_at hl 2 rfl) ?_
    refine r_iald S hK hG 8 0 rfl rfl hxi dX5_goAct_21 ?_
    refine lv_topi (fun v1 e_v1 => ?_)
    have hf := bnd_p e_v1 hf
    refine lv_istore_n (lv' := [(3, .int v1), (0, .ref (ad 0)), (1, .int x1), (2, .int x2)]) S.1 S.2.1 dX5_goAct_22 rfl hl (by decide) rfl (fun ls hl => ?_)
    refine lv_iload_n S.1 S.2.1 dX5_goAct_23 rfl (lv_at hl 0 rfl) ?_
    refine lv_bipush (v := 6) S.1 S.2.1 dX5_goAct_24 (by decide) ?_
    refine lv_icmp_ne (tgt := 102) S.1 S.2.1 dX5_goAct_26 (by decide) (fun c_26 => ?_) (fun c_26 => ?_)
    · have hf := ite_n c_26 hf
      exact b_X5_goAct_102 S hr hlocks hK hA σ x1 x2 v1 (hat) (hxi) (ht) hf H locs hG ls (lv_sub hl [1, 2, 3, 0] rfl)
    · have hf := ite_p c_26 hf
      refine lv_aload_n S.1 S.2.1 dX5_goAct_29 rfl (lv_at hl 1 rfl) ?_
      refine M_get S hin hK hG 29 (by decide) (by decide +kernel) rfl dX5_goAct_30 ?_
      refine lv_iload_n S.1 S.2.1 dX5_goAct_33 rfl (lv_at hl 2 rfl) ?_
      refine r_iald S hK hG 19 0 rfl rfl hat dX5_goAct_34 ?_
      refine lv_iconst (v := 1) S.1 S.2.1 dX5_goAct_35 (by decide) ?_
      refine lv_icmp_ne (tgt := 102) S.1 S.2.1 dX5_goAct_36 (by decide) (fun c_36 => ?_) (fun c_36 => ?_)
      · have hf := ite_n c_36 hf
        exact b_X5_goAct_102 S hr hlocks hK hA σ x1 x2 v1 (hat) (hxi) (ht) hf H locs hG ls (lv_sub hl [1, 2, 3, 0] rfl)
      · have hf := ite_p c_36 hf
        refine lv_aload_n S.1 S.2.1 dX5_goAct_39 rfl (lv_at hl 1 rfl) ?_
        refine M_get S hin hK hG 35 (by decide) (by decide +kernel) rfl dX5_goAct_40 ?_
        refine lv_if_eq (tgt := 102) S.1 S.2.1 dX5_goAct_43 (by decide) (fun c_43 => ?_) (fun c_43 => ?_)
        · have hf := ite_p c_43 hf
          exact b_X5_goAct_102 S hr hlocks hK hA σ x1 x2 v1 (hat) (hxi) (ht) hf H locs hG ls (lv_sub hl [1, 2, 3, 0] rfl)
        · have hf := ite_n c_43 hf
          refine lv_aload_n S.1 S.2.1 dX5_goAct_46 rfl (lv_at hl 1 rfl) ?_
          refine M_get S hin hK hG 35 (by decide) (by decide +kernel) rfl dX5_goAct_47 ?_
          refine lv_iconst (v := 5) S.1 S.2.1 dX5_goAct_50 (by decide) ?_
          refine lv_icmp_eq (tgt := 102) S.1 S.2.1 dX5_goAct_51 (by decide) (fun c_51 => ?_) (fun c_51 => ?_)
          · have hf := ite_p c_51 hf
            exact b_X5_goAct_102 S hr hlocks hK hA σ x1 x2 v1 (hat) (hxi) (ht) hf H locs hG ls (lv_sub hl [1, 2, 3, 0] rfl)
          · have hf := ite_n c_51 hf
            refine lv_iconst (v := 0) S.1 S.2.1 dX5_goAct_54 (by decide) ?_
            refine lv_istore (lv' := [(4, .int 0), (3, .int v1), (0, .ref (ad 0)), (1, .int x1), (2, .int x2)]) S.1 S.2.1 dX5_goAct_55 hl (by decide) rfl (fun ls hl => ?_)
            exact b_X5_goAct_57 S hr hlocks hK hA 7 σ x1 x2 v1 0 (hat) (hxi) (ht) (⟨0, rfl, by omega, by omega⟩) hf H locs hG ls (lv_sub hl [2, 3, 4, 1, 0] rfl)
  · have hf := ite_p c_6 hf
    refine lv_aload_n S.1 S.2.1 dX5_goAct_9 rfl (lv_at hl 0 rfl) ?_
    refine lv_iload_n S.1 S.2.1 dX5_goAct_10 rfl (lv_at hl 1 rfl) ?_
    refine lv_iload_n S.1 S.2.1 dX5_goAct_11 rfl (lv_at hl 2 rfl) ?_
    refine r_callVv S hK hA hG (k_X5_begins l _ _ _ _ _ _ hat hxi k0 k1 k8 ht hw) (cwV 2 S.2.2.2.2 gX5_goAct_X5_begins rfl rfl rfl (by decide +kernel) ⟨Nat.le_of_ble_eq_true rfl, Nat.le_of_ble_eq_true rfl⟩) (va_recv hK hG.1 (ci := 5) (q0 := 0) rfl rfl) rfl hl.1 rfl (Nat.le_of_ble_eq_true rfl) dX5_goAct_12 ⟨Nat.le_of_ble_eq_true rfl, Nat.le_of_ble_eq_true rfl⟩ (fun σ2 H locs e_σ2 hG => ?_)
    have hf := bnd_p e_σ2 hf
    exact r_vret S hr hlocks hG _ rfl hf dX5_goAct_15
theorem k_X5_goAct (l : Launch) (D : va_G) (cI : ClassId) (ad : Nat → Nat) (σ : Mem) (x1 : Int32) (x2 : Int32) (hat : vp_in x1 300) (hxi : vp_in x2 40) (k0 : σ 11 x2.toNatClampNeg = 0 → vp_in (σ 12 x2.toNatClampNeg) 6) (k1 : σ 11 x2.toNatClampNeg = 1 → vp_in (σ 12 x2.toNatClampNeg) 6 ∧ vp_in (σ 13 x2.toNatClampNeg) 6) (k8 : σ 11 x2.toNatClampNeg = 8 → vp_in (σ 12 x2.toNatClampNeg) 8 ∧ vp_in (σ 13 x2.toNatClampNeg) 6) (ht : ¬ σ 0 26 = 300 → vp_in (σ 0 25) 300) (hw : ¬ 60 ≤ σ 0 14 → vp_in (σ 0 14) 60) : CMv l yX5_goAct wsX5_goAct ({ frames := 3, cells := 0, slots := 0, locals := 71 } : Room) D vwCl [(cI, .int)] (RW ad cI σ) [.ref (ad 0), .int x1, .int x2] (fun (u : Mem) => u = (f_X5_goAct σ x1 x2)) (fun u => RW ad cI u) :=
  r_met (by decide) rfl (Nat.le_of_ble_eq_true rfl) (fun p e s m args below meth c ls S hr hlocks _ hK hA hG hl => b_X5_goAct_0 S hr hlocks hK hA σ x1 x2 hat hxi k0 k1 k8 ht hw rfl _ _ hG ls hl)
end
section
/-! THE REFERENCE'S MACHINE, in pure words: what was told is sound, the open frames are sound, each step makes a measure fall -/
def RV (σ : Mem) : Prop := ∀ i : Nat, i < 40 → (¬ 5 ≤ σ 5 i → vp_in (σ 6 i) 8) ∧ (σ 5 i = 3 → vp_in (σ 7 i) 8) ∧ (5 ≤ σ 5 i → vp_in (σ 6 i) 40) ∧ ((σ 5 i = 6 ∨ σ 5 i = 7 ∨ σ 5 i = 9) → vp_in (σ 7 i) 40) ∧ (σ 11 i = 0 → vp_in (σ 12 i) 6) ∧ (σ 11 i = 1 → vp_in (σ 12 i) 6 ∧ vp_in (σ 13 i) 6) ∧ (σ 11 i = 8 → vp_in (σ 12 i) 8 ∧ vp_in (σ 13 i) 6) ∧ (σ 11 i = 2 → vp_in (σ 12 i) 40 ∧ (σ 13 i = -1 ∨ vp_in (σ 13 i) 40) ∧ (σ 14 i = -1 ∨ vp_in (σ 14 i) 40)) ∧ ((σ 11 i = 3 ∨ σ 11 i = 6) → vp_in (σ 12 i) 40 ∧ vp_in (σ 13 i) 40) ∧ ((σ 11 i = 4 ∨ σ 11 i = 5) → vp_in (σ 12 i) 40) ∧ (σ 11 i = 7 → σ 12 i < 0 ∨ vp_in (σ 12 i) 40) ∧ (0 ≤ (σ 11 i).toInt ∧ (σ 11 i).toInt ≤ 8)
def WV (σ : Mem) : Prop := (∃ k : Nat, k ≤ 60 ∧ σ 0 14 = nI k) ∧ ∀ j : Nat, j < 60 → vp_in (σ 16 j) 40
def Pres (σ τ : Mem) : Prop := (∀ r : Nat, (5 ≤ r ∧ r ≤ 8) ∨ (11 ≤ r ∧ r ≤ 14) → τ r = σ r) ∧ ∀ k : Nat, k ≤ 13 ∨ (15 ≤ k ∧ k ≤ 24) → τ 0 k = σ 0 k
theorem Pres.rf (σ : Mem) : Pres σ σ := ⟨fun _ _ => rfl, fun _ _ => rfl⟩
theorem Pres.tr {σ τ υ : Mem} (h : Pres σ τ) (g : Pres τ υ) : Pres σ υ := ⟨fun r hr => (g.1 r hr).trans (h.1 r hr), fun k hk => (g.2 k hk).trans (h.2 k hk)⟩
theorem RV.of {σ τ : Mem} (h : RV σ) (p : Pres σ τ) : RV τ := by
  intro i hi
  rw [p.1 5 (by omega), p.1 6 (by omega), p.1 7 (by omega), p.1 11 (by omega), p.1 12 (by omega), p.1 13 (by omega), p.1 14 (by omega)]
  exact h i hi
theorem Pres.row {σ : Mem} {r k : Nat} {x : Int32} (h : r ≠ 0 ∧ ¬ (5 ≤ r ∧ r ≤ 8) ∧ ¬ (11 ≤ r ∧ r ≤ 14)) : Pres σ (mset σ r k x) := ⟨fun q hq => mset_ne σ k x (by omega), fun j _ => by rw [mset_ne σ k x (show 0 ≠ r by omega)]⟩
theorem Pres.col {σ : Mem} {k : Nat} {x : Int32} (h : k = 14 ∨ 25 ≤ k) : Pres σ (mset σ 0 k x) := ⟨fun q hq => mset_ne σ k x (by omega), fun j hj => mset_n σ 0 x (by omega)⟩
def Dp (σ : Mem) : Prop := σ 0 33 = 1 ∧ σ 0 35 = 5
def SI (t g m : Nat) (σ : Mem) : Prop := σ 0 25 = nI t ∧ σ 0 26 = nI g ∧ t ≤ g ∧ g ≤ 300 ∧ (∀ j, j < t → vp_in (σ 29 j) 40) ∧ (∀ j, j < t → ∃ q : Nat, σ 30 j = nI q ∧ q ≤ 301 ∧ (¬ Dp σ → q ≤ g) ∧ (j + 1 < t → q ≠ 0)) ∧ (Dp σ → g = 300 ∧ ∀ j, j + 1 = t → ¬ σ 30 j = 0) ∧ (Dp σ → 2 * (300 - g) + t ≤ m) ∧ (¬ Dp σ → 2 * (300 - g) + t + 1 ≤ m)
/-- a step: sound again, the measure has fallen, what was told stays -/
def gStp (m : Nat) (σ τ : Mem) : Prop := (∃ t g m1 : Nat, m1 < m ∧ SI t g m1 τ) ∧ Pres σ τ ∧ WV τ
theorem SI.same {t g m : Nat} {σ τ : Mem} (h : SI t g m σ) (h1 : τ 0 25 = σ 0 25) (h2 : τ 0 26 = σ 0 26) (h3 : τ 0 33 = σ 0 33) (h4 : τ 0 35 = σ 0 35) (h5 : τ 29 = σ 29) (h6 : τ 30 = σ 30) : SI t g m τ := by
  unfold SI Dp at *
  rw [h1, h2, h3, h4, h5, h6]
  exact h
theorem SI.row {t g m r k : Nat} {σ : Mem} {x : Int32} (h : SI t g m σ) (hr : r ≠ 0 ∧ r ≠ 29 ∧ r ≠ 30) : SI t g m (mset σ r k x) := by
  refine h.same ?_ ?_ ?_ ?_ ?_ ?_
  · rw [mset_ne σ k x (show 0 ≠ r by omega)]
  · rw [mset_ne σ k x (show 0 ≠ r by omega)]
  · rw [mset_ne σ k x (show 0 ≠ r by omega)]
  · rw [mset_ne σ k x (show 0 ≠ r by omega)]
  · exact mset_ne σ k x (by omega)
  · exact mset_ne σ k x (by omega)
theorem WV.row {σ : Mem} {r k : Nat} {x : Int32} (h : WV σ) (hr : r ≠ 0 ∧ r ≠ 16) : WV (mset σ r k x) := by
  unfold WV at *
  rw [mset_ne σ k x (show 0 ≠ r by omega), mset_ne σ k x (show 16 ≠ r by omega)]
  exact h
theorem WV.col {σ : Mem} {k : Nat} {x : Int32} (h : WV σ) (hk : k ≠ 14) : WV (mset σ 0 k x) := by
  unfold WV at *
  rw [mset_n σ 0 x (show 14 ≠ k by omega), mset_ne σ k x (show 16 ≠ 0 by decide)]
  exact h
theorem WV.same {σ τ : Mem} (h : WV σ) (h1 : τ 0 14 = σ 0 14) (h2 : τ 16 = σ 16) : WV τ := by
  unfold WV at *
  rw [h1, h2]
  exact h
theorem nI_p {t : Nat} (h : 0 < t) : nI t - 1 = nI (t - 1) := by
  obtain ⟨k, rfl⟩ : ∃ k, t = k + 1 := ⟨t - 1, by omega⟩
  exact nI_pred k
/-- a frame goes -/
theorem SI.pop {t g m : Nat} {σ τ : Mem} (h : SI t g m σ) (ht : 0 < t) (h1 : τ 0 25 = σ 0 25 - 1) (h2 : τ 0 26 = σ 0 26) (h5 : τ 29 = σ 29) (h6 : τ 30 = σ 30) (hd : Dp σ → Dp τ) (hg : Dp τ → g = 300) : ∃ m1, m1 < m ∧ SI (t - 1) g m1 τ := by
  obtain ⟨a1, a2, a3, a4, a5, a6, a7, a8, a9⟩ := h
  refine ⟨m - 1, ?_, ?_, ?_, by omega, a4, fun j hj => ?_, fun j hj => ?_, fun q => ⟨hg q, fun j hj => ?_⟩, fun q => ?_, fun q => ?_⟩
  · rcases Classical.em (Dp σ) with q | q
    · have := a8 q; omega
    · have := a9 q; omega
  · rw [h1, a1, nI_p ht]
  · rw [h2, a2]
  · rw [h5]; exact a5 j (by omega)
  · obtain ⟨q, b1, b2, b3, b4⟩ := a6 j (by omega)
    exact ⟨q, by rw [h6]; exact b1, b2, fun z => b3 (fun y => z (hd y)), fun z => b4 (by omega)⟩
  · obtain ⟨q, b1, b2, b3, b4⟩ := a6 j (by omega)
    rw [h6, b1]
    exact nI_ne0 (Nat.pos_of_ne_zero (b4 (by omega))) (by omega)
  · rcases Classical.em (Dp σ) with z | z
    · have := a8 z; omega
    · have := a9 z; omega
  · have := a9 (fun y => q (hd y)); omega
theorem st_pass {t g m : Nat} {σ : Mem} (h : SI t g m σ) (ht : 0 < t) (hw : WV σ) : gStp m σ (f_X5_passes σ) := by
  obtain ⟨m1, b1, b2⟩ := h.pop (τ := f_X5_passes σ) ht rfl rfl rfl rfl (fun q => q) (fun q => (h.2.2.2.2.2.2.1 q).1)
  exact ⟨⟨_, _, m1, b1, b2⟩, Pres.col (by omega), hw.col (by decide)⟩
theorem st_ends {t g m : Nat} {σ : Mem} (v : Int32) (h : SI t g m σ) (ht : 0 < t) (hn : ¬ Dp σ) (hw : WV σ) : gStp m σ (f_X5_ends σ v) := by
  have hd : ¬ Dp (f_X5_ends σ v) := fun q => absurd (show (0 : Int32) = 5 from q.2) (by decide)
  obtain ⟨m1, b1, b2⟩ := h.pop (τ := f_X5_ends σ v) ht rfl rfl rfl rfl (fun q => absurd q hn) (fun q => absurd q hd)
  exact ⟨⟨_, _, m1, b1, b2⟩, (((Pres.col (by omega)).tr (Pres.col (by omega))).tr (Pres.col (by omega))).tr (Pres.col (by omega)), (((hw.col (by decide)).col (by decide)).col (by decide)).col (by decide)⟩
theorem st_fails {t g m : Nat} {σ : Mem} (v : Int32) (h : SI t g m σ) (ht : 0 < t) (hn : ¬ Dp σ) (hv : v = 5 → g = 300) (hw : WV σ) : gStp m σ (f_X5_fails σ v) := by
  obtain ⟨m1, b1, b2⟩ := h.pop (τ := f_X5_fails σ v) ht rfl rfl rfl rfl (fun q => absurd q hn) (fun q => hv (show v = 5 from q.2))
  exact ⟨⟨_, _, m1, b1, b2⟩, (((Pres.col (by omega)).tr (Pres.col (by omega))).tr (Pres.col (by omega))).tr (Pres.col (by omega)), (((hw.col (by decide)).col (by decide)).col (by decide)).col (by decide)⟩
/-- a frame comes, or it would be the 301st -/
theorem st_goOn {t g m : Nat} {σ : Mem} (kd id : Int32) (h : SI t g m σ) (ht : 0 < t) (hn : ¬ Dp σ) (hv : vp_in id 40) (hw : WV σ) : gStp m σ (f_X5_goOn σ (nI (t - 1)) kd id) := by
  obtain ⟨a1, a2, a3, a4, a5, a6, a7, a8, a9⟩ := h
  have hcl : (nI (t - 1)).toNatClampNeg = t - 1 := nI_clamp (by omega)
  obtain ⟨q0, c1, c2, c3, c4⟩ := a6 (t - 1) (by omega)
  have hq0 := c3 hn
  have hm := a9 hn
  show gStp m σ (f_X5_call (mset σ 30 (nI (t - 1)).toNatClampNeg (σ 30 (nI (t - 1)).toNatClampNeg + 1)) kd id)
  rw [hcl, c1, nI_1]
  have hs30 : ∀ j, j < t → ∃ q : Nat, (mset σ 30 (t - 1) (nI (q0 + 1))) 30 j = nI q ∧ q ≤ g + 1 ∧ q ≠ 0 := by
    intro j hj
    by_cases e : j = t - 1
    · subst e
      exact ⟨q0 + 1, mset_s _ _ _ _, by omega, by omega⟩
    · obtain ⟨q, b1, b2, b3, b4⟩ := a6 j hj
      exact ⟨q, by rw [mset_n σ 30 _ e]; exact b1, by have := b3 hn; omega, b4 (by omega)⟩
  by_cases hg : g = 300
  · have h26 : (mset σ 30 (t - 1) (nI (q0 + 1))) 0 26 = 300 := by
      show σ 0 26 = 300
      rw [a2, hg]; rfl
    unfold f_X5_call
    rw [if_pos h26]
    refine ⟨⟨t, g, m - 1, by omega, ?_⟩, ?_, ?_⟩
    · refine ⟨a1, a2, a3, a4, a5, fun j hj => ?_, fun _ => ⟨hg, fun j hj => ?_⟩, fun _ => by omega, fun q => absurd ⟨rfl, rfl⟩ q⟩
      · obtain ⟨q, b1, b2, b3⟩ := hs30 j hj
        exact ⟨q, b1, by omega, fun z => absurd ⟨rfl, rfl⟩ z, fun _ => b3⟩
      · obtain ⟨q, b1, b2, b3⟩ := hs30 j (by omega)
        have e : ∀ x : Int32, x = nI q → ¬ x = 0 := fun x hx => by rw [hx]; exact nI_ne0 (Nat.pos_of_ne_zero b3) (by omega)
        exact e _ b1
    · exact ((Pres.row (by decide)).tr (Pres.col (by omega))).tr (Pres.col (by omega))
    · exact ((hw.row (by decide)).col (by decide)).col (by decide)
  · have h26 : ¬ (mset σ 30 (t - 1) (nI (q0 + 1))) 0 26 = 300 := by
      show ¬ σ 0 26 = 300
      rw [a2]
      exact fun q => hg ((nI_eq (by omega) (by decide)).mp (show nI g = nI 300 from q))
    unfold f_X5_call
    rw [if_neg h26]
    have htc : (σ 0 25).toNatClampNeg = t := by rw [a1]; exact nI_clamp (by omega)
    refine ⟨⟨t + 1, g + 1, m - 1, by omega, ?_⟩, ?_, ?_⟩
    · refine ⟨?_, ?_, by omega, by omega, fun j hj => ?_, fun j hj => ?_, fun q => absurd (show (0 : Int32) = 1 from q.1) (by decide), fun q => absurd (show (0 : Int32) = 1 from q.1) (by decide), fun _ => by omega⟩
      · show σ 0 25 + 1 = nI (t + 1)
        rw [a1, nI_1]
      · show σ 0 26 + 1 = nI (g + 1)
        rw [a2, nI_1]
      · show vp_in (upd (σ 29) (σ 0 25).toNatClampNeg id j) 40
        rw [htc]
        by_cases e : j = t
        · subst e; rw [pk_us]; exact hv
        · rw [pk_un e]; exact a5 j (by omega)
      · show ∃ q : Nat, upd (mset σ 30 (t - 1) (nI (q0 + 1)) 30) (σ 0 25).toNatClampNeg 0 j = nI q ∧ _
        rw [htc]
        by_cases e : j = t
        · subst e
          exact ⟨0, pk_us, by omega, fun _ => by omega, fun z => by omega⟩
        · obtain ⟨q, b1, b2, b3⟩ := hs30 j (by omega)
          exact ⟨q, by rw [pk_un e]; exact b1, by omega, fun _ => b2, fun _ => b3⟩
    · exact (((((Pres.row (by decide)).tr (Pres.col (by omega))).tr (Pres.row (by decide))).tr (Pres.row (by decide))).tr (Pres.row (by decide))).tr ((Pres.col (by omega)).tr (Pres.col (by omega)))
    · exact ((((((hw.row (by decide)).col (by decide)).row (by decide)).row (by decide)).row (by decide)).col (by decide)).col (by decide)
theorem gStp.pre {m : Nat} {σ τ υ : Mem} (p : Pres σ τ) (h : gStp m τ υ) : gStp m σ υ := ⟨h.1, p.tr h.2.1, h.2.2⟩
end
section
theorem vp_mono {x : Int32} {n k : Nat} (h : vp_in x n) (hk : n ≤ k) : vp_in x k := by
  rw [vp_in_iff] at *
  omega
theorem st_says {t g m : Nat} {σ : Mem} (r a : Int32) (h : SI t g m σ) (ht : 0 < t) (hn : ¬ Dp σ) (hw : WV σ) : gStp m σ (f_X5_says σ r a) := by
  unfold f_X5_says
  simp only [bnd]
  repeat' split
  all_goals first
    | exact st_ends _ h ht hn hw
    | exact st_fails _ h ht hn (fun q => absurd q (by decide)) hw
theorem waits_ok {t g m : Nat} {σ : Mem} (x w : Int32) (h : SI t g m σ) (hn : ¬ Dp σ) (hx : vp_in x 40) (hw : WV σ) : SI t g m (f_X5_waits σ x w) ∧ ¬ Dp (f_X5_waits σ x w) ∧ Pres σ (f_X5_waits σ x w) ∧ WV (f_X5_waits σ x w) := by
  unfold f_X5_waits
  simp only [bnd]
  by_cases c : 60 ≤ σ 0 14
  · rw [if_pos c]
    exact ⟨h, hn, Pres.rf σ, hw⟩
  · rw [if_neg c]
    obtain ⟨⟨k, h1, h2⟩, h3⟩ := hw
    have hk : k < 60 := by
      rcases Nat.lt_or_ge k 60 with q | q
      · exact q
      · exact absurd (by rw [h2]; exact nI_le (a := 60) q (by omega)) c
    refine ⟨h.same rfl rfl rfl rfl rfl rfl, hn, ((Pres.row (by decide)).tr (Pres.row (by decide))).tr (Pres.col (by omega)), ⟨k + 1, hk, ?_⟩, fun j hj => ?_⟩
    · show σ 0 14 + 1 = nI (k + 1)
      rw [h2, nI_1]
    · show vp_in (upd (σ 16) (σ 0 14).toNatClampNeg x j) 40
      by_cases e : j = (σ 0 14).toNatClampNeg
      · subst e; rw [pk_us]; exact hx
      · rw [pk_un e]; exact h3 j hj
theorem SI.top {t g m : Nat} {σ : Mem} (h : SI t g m σ) (ht : 0 < t) : ∃ i : Nat, i < 40 ∧ σ 29 (t - 1) = nI i := vp_in_of (h.2.2.2.2.1 (t - 1) (by omega)) (by decide)
theorem SI.nd {t g m : Nat} {σ : Mem} (h : SI t g m σ) (ht : 0 < t) (h0 : σ 30 (t - 1) = 0) : ¬ Dp σ := fun q => (h.2.2.2.2.2.2.1 q).2 (t - 1) (by omega) h0
theorem nd_f {σ : Mem} (h : ¬ σ 0 35 = 5) : ¬ Dp σ := fun q => h q.2
theorem nd_0 {σ : Mem} (h : σ 0 35 = 0) : ¬ Dp σ := fun q => absurd (h.symm.trans q.2) (by decide)
theorem nd_row {σ : Mem} {r k : Nat} {x : Int32} (h : ¬ Dp σ) (hr : r ≠ 0) : ¬ Dp (mset σ r k x) := by
  unfold Dp at *
  rw [mset_ne σ k x (Ne.symm hr)]
  exact h
theorem nd_col {σ : Mem} {k : Nat} {x : Int32} (h : ¬ Dp σ) (hk : k ≠ 33 ∧ k ≠ 35) : ¬ Dp (mset σ 0 k x) := by
  unfold Dp at *
  rw [mset_n σ 0 x (Ne.symm hk.1), mset_n σ 0 x (Ne.symm hk.2)]
  exact h
theorem st_238 {t g m : Nat} (x2 a : Int32) (ht : 0 < t) (ha : vp_in a 40) : ∀ (n : Nat) (σ : Mem) (v : Int32), SI t g m σ → ¬ Dp σ → WV σ → (∃ k : Nat, v = nI k ∧ k ≤ 6 ∧ 7 ≤ k + n) → gStp m σ (f_X5_begins_238 n σ (nI (t - 1)) x2 a v) := by
  intro n
  induction n with
  | zero =>
    intro σ v _ _ _ hk
    obtain ⟨k, -, h1, h2⟩ := hk
    omega
  | succ n ih =>
    intro σ v h hn hw hk
    unfold f_X5_begins_238
    simp only [bnd]
    by_cases c : 6 ≤ v
    · rw [if_pos c]; exact st_goOn _ _ h ht hn ha hw
    · rw [if_neg c]
      exact (ih _ _ (h.row (by decide)) (nd_row hn (by decide)) (hw.row (by decide)) (ri_loop hk c rfl)).pre (Pres.row (by decide))
theorem st_57 {t g m i : Nat} (x2 kd : Int32) (ht : 0 < t) (hx : x2.toNatClampNeg = i) : ∀ (n : Nat) (σ : Mem) (v : Int32), SI t g m σ → ¬ Dp σ → WV σ → vp_in (σ 13 i) 40 → (∃ k : Nat, v = nI k ∧ k ≤ 6 ∧ 7 ≤ k + n) → gStp m σ (f_X5_goAct_57 n σ (nI (t - 1)) x2 kd v) := by
  intro n
  induction n with
  | zero =>
    intro σ v _ _ _ _ hk
    obtain ⟨k, -, h1, h2⟩ := hk
    omega
  | succ n ih =>
    intro σ v h hn hw hb hk
    unfold f_X5_goAct_57
    simp only [bnd, hx]
    by_cases c : 6 ≤ v
    · rw [if_pos c]; exact st_goOn _ _ h ht hn hb hw
    · rw [if_neg c]
      exact (ih _ _ (h.row (by decide)) (nd_row hn (by decide)) (hw.row (by decide)) (by rw [mset_ne _ _ _ (show 13 ≠ 2 by decide)]; exact hb) (ri_loop hk c rfl)).pre (Pres.row (by decide))
theorem st_begins {t g m i : Nat} {σ : Mem} (h : SI t g m σ) (ht : 0 < t) (hn : ¬ Dp σ) (hv : RV σ) (hw : WV σ) (hi : i < 40) : gStp m σ (f_X5_begins σ (nI (t - 1)) (nI i)) := by
  have hcl : (nI (t - 1)).toNatClampNeg = t - 1 := nI_clamp (by have := h.2.2.1; have := h.2.2.2.1; omega)
  have hci : (nI i).toNatClampNeg = i := nI_clamp (by omega)
  unfold f_X5_begins
  simp only [bnd, hcl, hci]
  have V := hv i hi
  have P5 : Pres σ (mset (mset σ 31 (t - 1) 0) 32 (t - 1) 0) := (Pres.row (by decide)).tr (Pres.row (by decide))
  have h5 : SI t g m (mset (mset σ 31 (t - 1) 0) 32 (t - 1) 0) := (h.row (by decide)).row (by decide)
  have n5 : ¬ Dp (mset (mset σ 31 (t - 1) 0) 32 (t - 1) 0) := hn
  have w5 : WV (mset (mset σ 31 (t - 1) 0) 32 (t - 1) 0) := (hw.row (by decide)).row (by decide)
  have e11 : (mset (mset σ 31 (t - 1) 0) 32 (t - 1) 0) 11 = σ 11 := rfl
  have e26 : (mset (mset σ 31 (t - 1) 0) 32 (t - 1) 0) 0 26 = σ 0 26 := rfl
  generalize (mset (mset σ 31 (t - 1) 0) 32 (t - 1) 0) = σ5 at *
  rw [e11]
  refine gStp.pre P5 ?_
  have hgo : ∀ (kd x : Int32), vp_in x 40 → gStp m σ5 (f_X5_goOn σ5 (nI (t - 1)) kd x) := fun kd x hx => st_goOn kd x h5 ht n5 hx w5
  have hfa : ∀ v : Int32, ¬ v = 5 → gStp m σ5 (f_X5_fails σ5 v) := fun v q => st_fails v h5 ht n5 (fun z => absurd z q) w5
  by_cases k0 : σ 11 i = 0
  · rw [if_pos k0]
    split
    · exact (st_ends _ (h5.row (by decide)) ht (nd_row n5 (by decide)) (w5.row (by decide))).pre (Pres.row (by decide))
    · exact hfa 3 (by decide)
  rw [if_neg k0]
  by_cases k1 : σ 11 i = 1
  · rw [if_pos k1]
    split
    · exact (st_ends _ ((h5.row (by decide)).row (by decide)) ht (nd_row (nd_row n5 (by decide)) (by decide)) ((w5.row (by decide)).row (by decide))).pre ((Pres.row (by decide)).tr (Pres.row (by decide)))
    · exact hfa 3 (by decide)
  rw [if_neg k1]
  by_cases k2 : σ 11 i = 2
  · rw [if_pos k2]; exact hgo _ _ (V.2.2.2.2.2.2.2.1 k2).1
  rw [if_neg k2]
  by_cases k3 : σ 11 i = 3
  · rw [if_pos k3]; exact hgo _ _ (V.2.2.2.2.2.2.2.2.1 (Or.inl k3)).1
  rw [if_neg k3]
  by_cases k4 : σ 11 i = 4
  · rw [if_pos k4]
    split
    · exact st_ends _ h5 ht n5 w5
    · exact hgo _ _ (V.2.2.2.2.2.2.2.2.2.1 (Or.inl k4))
  rw [if_neg k4]
  by_cases k5 : σ 11 i = 5
  · rw [if_pos k5]
    obtain ⟨b1, b2, b3, b4⟩ := waits_ok (σ 12 i) (σ5 0 2 + σ 13 i) h5 n5 (V.2.2.2.2.2.2.2.2.2.1 (Or.inr k5)) w5
    exact (st_ends _ b1 ht b2 b4).pre b3
  rw [if_neg k5]
  by_cases k6 : σ 11 i = 6
  · rw [if_pos k6]
    exact st_238 _ _ ht (V.2.2.2.2.2.2.2.2.1 (Or.inr k6)).1 7 σ5 0 h5 n5 w5 ⟨0, rfl, by omega, by omega⟩
  rw [if_neg k6]
  by_cases k7 : σ 11 i = 7
  · rw [if_pos k7]
    by_cases a0 : 0 ≤ σ 12 i
    · rw [if_pos a0]
      rcases V.2.2.2.2.2.2.2.2.2.2.1 k7 with q | q
      · exact absurd a0 (Int32.not_le.mpr q)
      · exact hgo _ _ q
    · rw [if_neg a0]
      have hg := h5.2.1
      by_cases g3 : σ5 0 26 = 300
      · rw [if_pos g3]
        have e300 : g = 300 := (nI_eq (by have := h5.2.2.2.1; omega) (by decide)).mp (show nI g = nI 300 from hg.symm.trans g3)
        refine (st_fails (t := t) (g := g) 5 ?_ ht ?_ (fun _ => e300) (w5.col (by decide))).pre (Pres.col (by omega))
        · refine h5.same rfl ?_ rfl rfl rfl rfl
          show σ5 0 26 + 0 = σ5 0 26
          simp
        · exact nd_col n5 (by decide)
      · rw [if_neg g3]
        have hlt : g < 300 := by
          rcases Nat.lt_or_ge g 300 with q | q
          · exact q
          · exact absurd (by rw [hg, show g = 300 from by have := h5.2.2.2.1; omega]; rfl) g3
        refine (st_fails (t := t) (g := g + 1) 4 ?_ ht ?_ (fun q => absurd q (by decide)) (w5.col (by decide))).pre (Pres.col (by omega))
        · obtain ⟨a1, a2, a3, a4, a5, a6, a7, a8, a9⟩ := h5
          have n6 : ∀ x : Int32, ¬ Dp (mset σ5 0 26 x) := fun x => nd_col n5 (by decide)
          refine ⟨a1, ?_, by omega, by omega, a5, fun j hj => ?_, fun q => absurd q (n6 _), fun q => absurd q (n6 _), fun _ => by have := a9 n5; omega⟩
          · show σ5 0 26 + 1 = nI (g + 1)
            rw [a2, nI_1]
          · obtain ⟨q, b1, b2, b3, b4⟩ := a6 j hj
            exact ⟨q, b1, b2, fun _ => by have := b3 n5; omega, b4⟩
        · exact nd_col n5 (by decide)
  rw [if_neg k7]
  by_cases k8 : σ 11 i = 8
  · rw [if_pos k8]
    exact (st_ends _ (h5.row (by decide)) ht (nd_row n5 (by decide)) (w5.row (by decide))).pre (Pres.row (by decide))
  rw [if_neg k8]
  exfalso
  have hr := V.2.2.2.2.2.2.2.2.2.2.2
  have z0 := sw_ne (z := 0) rfl k0
  have z1 := sw_ne (z := 1) rfl k1
  have z2 := sw_ne (z := 2) rfl k2
  have z3 := sw_ne (z := 3) rfl k3
  have z4 := sw_ne (z := 4) rfl k4
  have z5 := sw_ne (z := 5) rfl k5
  have z6 := sw_ne (z := 6) rfl k6
  have z7 := sw_ne (z := 7) rfl k7
  have z8 := sw_ne (z := 8) rfl k8
  omega
theorem st_102 {t g m i : Nat} {σ : Mem} (h : SI t g m σ) (ht : 0 < t) (hv : RV σ) (hw : WV σ) (hi : i < 40) : gStp m σ (f_X5_goAct_102 σ (nI (t - 1)) (nI i) (σ 11 i)) := by
  have hcl : (nI (t - 1)).toNatClampNeg = t - 1 := nI_clamp (by have := h.2.2.1; have := h.2.2.2.1; omega)
  have hci : (nI i).toNatClampNeg = i := nI_clamp (by omega)
  unfold f_X5_goAct_102
  simp only [bnd, hcl, hci]
  have V := hv i hi
  by_cases f0 : σ 0 35 = 0
  · rw [if_pos f0]
    have hn := nd_0 f0
    by_cases c5 : σ 11 i ≤ 5
    · rw [if_pos c5]
      by_cases k2 : σ 11 i = 2
      · rw [if_pos k2]
        have W2 := (V.2.2.2.2.2.2.2.1 k2).2
        split
        · split
          · exact st_pass h ht hw
          · split
            · exact st_ends _ h ht hn hw
            · next z => exact st_goOn _ _ h ht hn (W2.1.resolve_left z) hw
        · split
          · exact st_pass h ht hw
          · split
            · exact st_ends _ h ht hn hw
            · next z => exact st_goOn _ _ h ht hn (W2.2.resolve_left z) hw
      · rw [if_neg k2]
        have P3 : ∀ a b : Int32, Pres σ (mset (mset σ 31 (t - 1) a) 32 (t - 1) b) := fun a b => (Pres.row (by decide)).tr (Pres.row (by decide))
        have h3 : ∀ a b : Int32, SI t g m (mset (mset σ 31 (t - 1) a) 32 (t - 1) b) := fun a b => (h.row (by decide)).row (by decide)
        have w3 : ∀ a b : Int32, WV (mset (mset σ 31 (t - 1) a) 32 (t - 1) b) := fun a b => (hw.row (by decide)).row (by decide)
        have n3 : ∀ a b : Int32, ¬ Dp (mset (mset σ 31 (t - 1) a) 32 (t - 1) b) := fun a b => nd_row (nd_row hn (by decide)) (by decide)
        by_cases k3 : σ 11 i = 3
        · rw [if_pos k3]
          split
          · exact (st_ends _ (h3 _ _) ht (n3 _ _) (w3 _ _)).pre (P3 _ _)
          · exact (st_goOn _ _ (h3 _ _) ht (n3 _ _) (V.2.2.2.2.2.2.2.2.1 (Or.inl k3)).2 (w3 _ _)).pre (P3 _ _)
        · rw [if_neg k3]
          split
          · exact (st_ends _ (h3 _ _) ht (n3 _ _) (w3 _ _)).pre (P3 _ _)
          · refine (st_goOn _ _ (h3 _ _) ht (n3 _ _) ?_ (w3 _ _)).pre (P3 _ _)
            show vp_in (σ 12 i) 40
            by_cases k0 : σ 11 i = 0
            · exact vp_mono (V.2.2.2.2.1 k0) (by decide)
            by_cases k1 : σ 11 i = 1
            · exact vp_mono (V.2.2.2.2.2.1 k1).1 (by decide)
            by_cases k4 : σ 11 i = 4
            · exact V.2.2.2.2.2.2.2.2.2.1 (Or.inl k4)
            by_cases k5 : σ 11 i = 5
            · exact V.2.2.2.2.2.2.2.2.2.1 (Or.inr k5)
            exfalso
            have hr := V.2.2.2.2.2.2.2.2.2.2.2
            have z0 := sw_ne (z := 0) rfl k0
            have z1 := sw_ne (z := 1) rfl k1
            have z2 := sw_ne (z := 2) rfl k2
            have z3 := sw_ne (z := 3) rfl k3
            have z4 := sw_ne (z := 4) rfl k4
            have z5 := sw_ne (z := 5) rfl k5
            rw [Int32.le_iff_toInt_le, show (5 : Int32).toInt = 5 from rfl] at c5
            omega
    · rw [if_neg c5]; exact st_pass h ht hw
  · rw [if_neg f0]; exact st_pass h ht hw
end
section
theorem bnd_i {α β : Type} {P : β → Prop} {v : α} {F : α → β} (h : ∀ x, x = v → P (F x)) : P (bnd v F) := h v rfl
theorem ite_i {β : Type} {P : β → Prop} {c : Prop} [d : Decidable c] {a b : β} (h1 : c → P a) (h2 : ¬ c → P b) : P (if c then a else b) := by
  by_cases h : c
  · rw [if_pos h]; exact h1 h
  · rw [if_neg h]; exact h2 h
theorem st_goRule {t g m i : Nat} {σ : Mem} (h : SI t g m σ) (ht : 0 < t) (hv : RV σ) (hw : WV σ) (hi : i < 40) : gStp m σ (f_X5_goRule σ (nI (t - 1)) (nI i)) := by
  have hcl : (nI (t - 1)).toNatClampNeg = t - 1 := nI_clamp (by have := h.2.2.1; have := h.2.2.2.1; omega)
  have hci : (nI i).toNatClampNeg = i := nI_clamp (by omega)
  unfold f_X5_goRule
  have V := hv i hi
  refine bnd_i (P := gStp m σ) (fun v1 e1 => ?_)
  rw [hci] at e1
  refine ite_i (P := gStp m σ) (fun h0 => ?_) (fun h0 => ?_)
  · rw [hcl] at h0
    have hn := h.nd ht h0
    refine ite_i (P := gStp m σ) (fun h5 => ?_) (fun h5 => ?_)
    · rw [hci] at h5
      refine bnd_i (P := gStp m σ) (fun z ez => ?_)
      rw [ez]; exact st_goOn _ _ h ht hn (by rw [e1]; exact V.2.2.1 h5) hw
    · refine bnd_i (P := gStp m σ) (fun z ez => ?_)
      rw [ez]; exact st_says _ _ h ht hn hw
  · have hp : ∀ z : Mem, z = f_X5_passes σ → gStp m σ z := fun z ez => by rw [ez]; exact st_pass h ht hw
    refine ite_i (P := gStp m σ) (fun h2 => bnd_i (P := gStp m σ) hp) (fun h2 => ?_)
    refine ite_i (P := gStp m σ) (fun h9 => ?_) (fun h9 => ?_)
    · rw [hci] at h9
      refine ite_i (P := gStp m σ) (fun f0 => bnd_i (P := gStp m σ) hp) (fun f0 => ?_)
      refine ite_i (P := gStp m σ) (fun f5 => bnd_i (P := gStp m σ) hp) (fun f5 => ?_)
      refine bnd_i (P := gStp m σ) (fun z ez => ?_)
      rw [ez, hci]; exact st_goOn _ _ h ht (nd_f f5) (V.2.2.2.1 (Or.inr (Or.inr h9))) hw
    · refine ite_i (P := gStp m σ) (fun f0 => ?_) (fun f0 => bnd_i (P := gStp m σ) hp)
      have hn := nd_0 f0
      have hb : (σ 5 i = 6 ∨ σ 5 i = 7 ∨ σ 5 i = 9) → ∀ z : Mem, z = f_X5_goOn σ (nI (t - 1)) 0 (σ 7 (nI i).toNatClampNeg) → gStp m σ z := fun q z ez => by
        rw [ez, hci]; exact st_goOn _ _ h ht hn (V.2.2.2.1 q) hw
      refine ite_i (P := gStp m σ) (fun k5 => ?_) (fun k5 => ?_)
      · refine bnd_i (P := gStp m σ) (fun z ez => ?_)
        rw [ez]; exact st_ends _ h ht hn hw
      · refine ite_i (P := gStp m σ) (fun k6 => ?_) (fun k6 => ?_)
        · rw [hci] at k6
          refine ite_i (P := gStp m σ) (fun _ => ?_) (fun _ => ?_)
          · exact ite_i (P := gStp m σ) (fun _ => bnd_i (P := gStp m σ) (hb (Or.inl k6))) (fun _ => bnd_i (P := gStp m σ) hp)
          · exact ite_i (P := gStp m σ) (fun _ => bnd_i (P := gStp m σ) (hb (Or.inl k6))) (fun _ => bnd_i (P := gStp m σ) hp)
        · refine ite_i (P := gStp m σ) (fun k7 => ?_) (fun k7 => ?_)
          · rw [hci] at k7
            refine ite_i (P := gStp m σ) (fun _ => ?_) (fun _ => ?_)
            · exact ite_i (P := gStp m σ) (fun _ => bnd_i (P := gStp m σ) (hb (Or.inr (Or.inl k7)))) (fun _ => bnd_i (P := gStp m σ) hp)
            · exact ite_i (P := gStp m σ) (fun _ => bnd_i (P := gStp m σ) (hb (Or.inr (Or.inl k7)))) (fun _ => bnd_i (P := gStp m σ) hp)
          · refine bnd_i (P := gStp m σ) (fun y ey => ?_)
            have P1 : Pres σ y := by rw [ey]; exact Pres.row (by decide)
            have S1 : SI t g m y := by rw [ey]; exact h.row (by decide)
            have N1 : ¬ Dp y := by rw [ey]; exact nd_row hn (by decide)
            have W1 : WV y := by rw [ey]; exact hw.row (by decide)
            refine ite_i (P := gStp m σ) (fun _ => ?_) (fun _ => ?_)
            · refine bnd_i (P := gStp m σ) (fun z ez => ?_)
              rw [ez]; exact (st_ends _ S1 ht N1 W1).pre P1
            · refine bnd_i (P := gStp m σ) (fun z ez => ?_)
              rw [ez]; exact (st_ends _ S1 ht N1 W1).pre P1
theorem st_goAct {t g m i : Nat} {σ : Mem} (h : SI t g m σ) (ht : 0 < t) (hv : RV σ) (hw : WV σ) (hi : i < 40) : gStp m σ (f_X5_goAct σ (nI (t - 1)) (nI i)) := by
  have hcl : (nI (t - 1)).toNatClampNeg = t - 1 := nI_clamp (by have := h.2.2.1; have := h.2.2.2.1; omega)
  have hci : (nI i).toNatClampNeg = i := nI_clamp (by omega)
  unfold f_X5_goAct
  have V := hv i hi
  refine ite_i (P := gStp m σ) (fun h0 => ?_) (fun h0 => ?_)
  · rw [hcl] at h0
    refine bnd_i (P := gStp m σ) (fun z ez => ?_)
    rw [ez]; exact st_begins h ht (h.nd ht h0) hv hw hi
  · refine bnd_i (P := gStp m σ) (fun v1 e1 => ?_)
    rw [hci] at e1
    have hp : gStp m σ (f_X5_goAct_102 σ (nI (t - 1)) (nI i) v1) := by rw [e1]; exact st_102 h ht hv hw hi
    refine ite_i (P := gStp m σ) (fun k6 => ?_) (fun _ => hp)
    rw [e1] at k6
    refine ite_i (P := gStp m σ) (fun _ => ?_) (fun _ => hp)
    refine ite_i (P := gStp m σ) (fun _ => hp) (fun _ => ?_)
    refine ite_i (P := gStp m σ) (fun _ => hp) (fun z => ?_)
    exact st_57 _ _ ht hci 7 σ 0 h (nd_f z) hw (V.2.2.2.2.2.2.2.2.1 (Or.inr k6)).2 ⟨0, rfl, by omega, by omega⟩
end
section
/-- what the loop of the machine keeps -/
def GI (n : Nat) (σ : Mem) : Prop := RV σ ∧ WV σ ∧ ∃ t g m : Nat, SI t g m σ ∧ m < n
theorem rv_at {σ : Mem} {x : Int32} (hv : RV σ) (hx : vp_in x 40) : ∃ i : Nat, i < 40 ∧ x = nI i ∧ x.toNatClampNeg = i := by
  obtain ⟨i, hi, rfl⟩ := vp_in_of hx (by decide)
  exact ⟨i, hi, rfl, nI_clamp (by omega)⟩
theorem go_t {n : Nat} {σ : Mem} {v : Int32} (h : GI n σ) (c : ¬ σ 0 25 ≤ 0) (e : v = σ 0 25 - 1) : ∃ t g m : Nat, SI t g m σ ∧ m < n ∧ 0 < t ∧ t ≤ 300 ∧ v = nI (t - 1) ∧ v.toNatClampNeg = t - 1 := by
  obtain ⟨-, -, t, g, m, hs, hm⟩ := h
  have ht : 0 < t := by
    rcases Nat.eq_zero_or_pos t with q | q
    · subst q
      exact absurd (by rw [hs.1]; decide) c
    · exact q
  have hle : t ≤ 300 := by have := hs.2.2.1; have := hs.2.2.2.1; omega
  have ev : v = nI (t - 1) := by rw [e, hs.1, nI_p ht]
  exact ⟨t, g, m, hs, hm, ht, hle, ev, by rw [ev]; exact nI_clamp (by omega)⟩
theorem go_in {n : Nat} {σ : Mem} {v : Int32} (h : GI n σ) (c : ¬ σ 0 25 ≤ 0) (e : v = σ 0 25 - 1) : vp_in v 300 := by
  obtain ⟨t, g, m, hs, hm, ht, hle, ev, -⟩ := go_t h c e
  rw [ev]; exact vp_in_nI (by omega) (by decide)
theorem go_id {n : Nat} {σ : Mem} {v : Int32} (h : GI n σ) (c : ¬ σ 0 25 ≤ 0) (e : v = σ 0 25 - 1) : vp_in (σ 29 v.toNatClampNeg) 40 := by
  obtain ⟨t, g, m, hs, hm, ht, hle, ev, ec⟩ := go_t h c e
  rw [ec]; exact hs.2.2.2.2.1 (t - 1) (by omega)
theorem go_tp {n : Nat} {σ : Mem} (h : GI n σ) : ¬ σ 0 26 = 300 → vp_in (σ 0 25) 300 := by
  obtain ⟨-, -, t, g, m, hs, hm⟩ := h
  intro c
  rw [hs.1]
  refine vp_in_nI ?_ (by decide)
  have h1 := hs.2.2.1
  have h2 := hs.2.2.2.1
  rcases Nat.lt_or_ge t 300 with q | q
  · exact q
  · exact absurd (by rw [hs.2.1, show g = 300 by omega]; rfl) c
theorem go_w {σ : Mem} (h : WV σ) : ¬ 60 ≤ σ 0 14 → vp_in (σ 0 14) 60 := by
  obtain ⟨⟨k, h1, h2⟩, -⟩ := h
  intro c
  rw [h2] at c ⊢
  rcases Nat.lt_or_ge k 60 with q | q
  · exact vp_in_nI q (by decide)
  · exact absurd (nI_le (a := 60) q (by omega)) c
theorem go_sR {n : Nat} {σ τ : Mem} {v : Int32} (h : GI (n + 1) σ) (c : ¬ σ 0 25 ≤ 0) (e : v = σ 0 25 - 1) (et : τ = f_X5_goRule σ v (σ 29 v.toNatClampNeg)) : GI n τ := by
  obtain ⟨t, g, m, hs, hm, ht, hle, ev, ec⟩ := go_t h c e
  obtain ⟨i, hi, ei⟩ := hs.top ht
  have h1 := st_goRule hs ht h.1 h.2.1 hi
  rw [et, ec, ei, ev]
  obtain ⟨⟨t1, g1, m1, b1, b2⟩, b3, b4⟩ := h1
  exact ⟨h.1.of b3, b4, t1, g1, m1, b2, by omega⟩
theorem go_sA {n : Nat} {σ τ : Mem} {v : Int32} (h : GI (n + 1) σ) (c : ¬ σ 0 25 ≤ 0) (e : v = σ 0 25 - 1) (et : τ = f_X5_goAct σ v (σ 29 v.toNatClampNeg)) : GI n τ := by
  obtain ⟨t, g, m, hs, hm, ht, hle, ev, ec⟩ := go_t h c e
  obtain ⟨i, hi, ei⟩ := hs.top ht
  have h1 := st_goAct hs ht h.1 h.2.1 hi
  rw [et, ec, ei, ev]
  obtain ⟨⟨t1, g1, m1, b1, b2⟩, b3, b4⟩ := h1
  exact ⟨h.1.of b3, b4, t1, g1, m1, b2, by omega⟩
theorem go_0 {σ τ : Mem} {kd id : Int32} (hv : RV σ) (hw : WV σ) (hid : vp_in id 40) (et : τ = f_X5_call (mset (mset σ 0 25 0) 0 26 0) kd id) : GI 602 τ := by
  have hn : ¬ (mset (mset σ 0 25 0) 0 26 0) 0 26 = 300 := fun q => absurd (show (0 : Int32) = 300 from q) (by decide)
  unfold f_X5_call at et
  rw [if_neg hn] at et
  have P : Pres σ τ := by
    rw [et]
    exact (((Pres.col (by omega)).tr (Pres.col (by omega))).tr ((((Pres.col (by omega)).tr (Pres.row (by decide))).tr (Pres.row (by decide))).tr (Pres.row (by decide)))).tr ((Pres.col (by omega)).tr (Pres.col (by omega)))
  refine ⟨hv.of P, ?_, 1, 1, 600, ?_, by omega⟩
  · rw [et]
    exact (((((((hw.col (by decide)).col (by decide)).col (by decide)).row (by decide)).row (by decide)).row (by decide)).col (by decide)).col (by decide)
  · rw [et]
    refine ⟨rfl, rfl, by omega, by omega, fun j hj => ?_, fun j hj => ⟨0, ?_, by omega, fun _ => by omega, fun z => by omega⟩, fun q => absurd (show (0 : Int32) = 1 from q.1) (by decide), fun q => absurd (show (0 : Int32) = 1 from q.1) (by decide), fun _ => by omega⟩
    · have ej : j = 0 := by omega
      subst ej
      exact hid
    · have ej : j = 0 := by omega
      subst ej
      rfl
theorem in_X5_go : ∀ w ∈ wsX50, w ∈ wsX5_go := by decide +kernel
def f_X5_go_16 : Nat → Mem → Int32 → Int32 → Mem
  | 0, σ, _, _ => σ
  | n + 1, σ, x1, x2 =>
  (if (σ 0 25) ≤ 0 then
  bnd (mset σ 0 23 ((σ 0 23) + (σ 0 26))) fun σ1 =>
  σ1
  else
  bnd ((σ 0 25) - 1) fun v2 =>
  (if (σ 28 v2.toNatClampNeg) = 0 then
  bnd (f_X5_goRule σ v2 (σ 29 v2.toNatClampNeg)) fun σ4 =>
  f_X5_go_16 n σ4 x1 x2
  else
  bnd (f_X5_goAct σ v2 (σ 29 v2.toNatClampNeg)) fun σ3 =>
  f_X5_go_16 n σ3 x1 x2))
set_option maxRecDepth 100000 in
set_option maxHeartbeats 4000000 in
theorem b_X5_go_16 {p : Program} {l : Launch} {e : Env} {s : State} {m : MethodId} {args : Array Value} {below : List Frame} {meth : Method} {c : Code} {D : va_G} {cI : ClassId} {ad : Nat → Nat} {w0 : va_W} {X : Mem} (S : CallFix p m c cX5_go 4 s args wsX5_go RX5) (hr : meth.sig.returnType = none) (hlocks : meth.locks = false) (hK : va_K D vwCl [(cI, .int)] s) (hA : ∀ q, s.heap.size ≤ q → va_A w0 s.heap.size q) : ∀ (n : Nat) (σ : Mem) (x1 : Int32) (x2 : Int32) (hg : GI n σ), f_X5_go_16 n σ x1 x2 = X → ∀ (H : Heap) (locs : List Loc), wI D vwCl (va_A w0 s.heap.size) s.heap H locs (RW ad cI σ) → ∀ (ls : Array Slot), lv_has ls 4 [(0, .ref (ad 0)), (1, .int x1), (2, .int x2)] → W p l e ({ frames := 4, cells := 0, slots := 0, locals := 95 } : Room) s m args below meth c H locs 0 0 (MQ below (va_Qv (fun (u : Mem) => u = X) (fun u t => wPost D vwCl w0 s.heap.size ((fun u => RW ad cI u) u) t) (va_A w0 s.heap.size)) args s 0 0 (va_A w0 s.heap.size)) (F0 m 16 ls []) := by
  have hin := in_X5_go
  intro n
  induction n with
  | zero =>
    intro σ x1 x2 hg
    exact (by obtain ⟨-, -, t, g, m, -, q⟩ := hg; omega)
  | succ n ih =>
    intro σ x1 x2 hg hf H locs hG ls hl
    unfold f_X5_go_16 at hf
    refine lv_aload_n S.1 S.2.1 dX5_go_16 rfl (lv_at hl 0 rfl) ?_
    refine M_get S hin hK hG 25 (by decide) (by decide +kernel) rfl dX5_go_17 ?_
    refine lv_if_le (tgt := 67) S.1 S.2.1 dX5_go_20 (by decide) (fun c_20 => ?_) (fun c_20 => ?_)
    · have hf := ite_p c_20 hf
      refine lv_aload_n S.1 S.2.1 dX5_go_67 rfl (lv_at hl 0 rfl) ?_
      refine lv_dup S.1 S.2.1 dX5_go_68 rfl ?_
      refine M_get S hin hK hG 23 (by decide) (by decide +kernel) rfl dX5_go_69 ?_
      refine lv_aload_n S.1 S.2.1 dX5_go_72 rfl (lv_at hl 0 rfl) ?_
      refine M_get S hin hK hG 26 (by decide) (by decide +kernel) rfl dX5_go_73 ?_
      refine lv_iadd S.1 S.2.1 dX5_go_76 ?_
      refine M_put S hin hK hG 23 (by decide) (by decide +kernel) rfl rfl rfl (RWp_23 _ _ _ _) dX5_go_77 (fun σ1 H locs e_σ1 hG => ?_)
      have hf := bnd_p e_σ1 hf
      exact r_vret S hr hlocks hG _ rfl hf dX5_go_80
    · have hf := ite_n c_20 hf
      refine lv_aload_n S.1 S.2.1 dX5_go_23 rfl (lv_at hl 0 rfl) ?_
      refine M_get S hin hK hG 25 (by decide) (by decide +kernel) rfl dX5_go_24 ?_
      refine lv_iconst (v := 1) S.1 S.2.1 dX5_go_27 (by decide) ?_
      refine lv_isub S.1 S.2.1 dX5_go_28 ?_
      refine lv_topi (fun v2 e_v2 => ?_)
      have hf := bnd_p e_v2 hf
      refine lv_istore_n (lv' := [(3, .int v2), (0, .ref (ad 0)), (1, .int x1), (2, .int x2)]) S.1 S.2.1 dX5_go_29 rfl hl (by decide) rfl (fun ls hl => ?_)
      refine lv_aload_n S.1 S.2.1 dX5_go_30 rfl (lv_at hl 1 rfl) ?_
      refine M_get S hin hK hG 27 (by decide) (by decide +kernel) rfl dX5_go_31 ?_
      refine lv_iload_n S.1 S.2.1 dX5_go_34 rfl (lv_at hl 0 rfl) ?_
      refine r_iald S hK hG 17 0 rfl rfl (go_in hg c_20 (by assumption)) dX5_go_35 ?_
      refine lv_if_ne (tgt := 53) S.1 S.2.1 dX5_go_36 (by decide) (fun c_36 => ?_) (fun c_36 => ?_)
      · have hf := ite_n c_36 hf
        refine lv_aload_n S.1 S.2.1 dX5_go_53 rfl (lv_at hl 1 rfl) ?_
        refine lv_iload_n S.1 S.2.1 dX5_go_54 rfl (lv_at hl 0 rfl) ?_
        refine lv_aload_n S.1 S.2.1 dX5_go_55 rfl (lv_at hl 1 rfl) ?_
        refine M_get S hin hK hG 28 (by decide) (by decide +kernel) rfl dX5_go_56 ?_
        refine lv_iload_n S.1 S.2.1 dX5_go_59 rfl (lv_at hl 0 rfl) ?_
        refine r_iald S hK hG 18 0 rfl rfl (go_in hg c_20 (by assumption)) dX5_go_60 ?_
        refine r_callVv S hK hA hG (k_X5_goAct l _ _ _ _ _ _ (go_in hg c_20 (by assumption)) (go_id hg c_20 (by assumption)) (by obtain ⟨i, hi, -, ei⟩ := rv_at hg.1 (go_id hg c_20 (by assumption)); rw [ei]; exact (hg.1 i hi).2.2.2.2.1) (by obtain ⟨i, hi, -, ei⟩ := rv_at hg.1 (go_id hg c_20 (by assumption)); rw [ei]; exact (hg.1 i hi).2.2.2.2.2.1) (by obtain ⟨i, hi, -, ei⟩ := rv_at hg.1 (go_id hg c_20 (by assumption)); rw [ei]; exact (hg.1 i hi).2.2.2.2.2.2.1) (go_tp hg) (go_w hg.2.1)) (cwV 2 S.2.2.2.2 gX5_go_X5_goAct rfl rfl rfl (by decide +kernel) ⟨Nat.le_of_ble_eq_true rfl, Nat.le_of_ble_eq_true rfl⟩) (va_recv hK hG.1 (ci := 5) (q0 := 0) rfl rfl) rfl hl.1 rfl (Nat.le_of_ble_eq_true rfl) dX5_go_61 ⟨Nat.le_of_ble_eq_true rfl, Nat.le_of_ble_eq_true rfl⟩ (fun σ3 H locs e_σ3 hG => ?_)
        have hf := bnd_p e_σ3 hf
        refine lv_goto (tgt := 16) S.1 S.2.1 dX5_go_64 (by decide) ?_
        exact ih σ3 x1 x2 (by first | exact go_sR hg c_20 (by assumption) (by assumption) | exact go_sA hg c_20 (by assumption) (by assumption)) hf H locs hG ls (lv_sub hl [1, 2, 3] rfl)
      · have hf := ite_p c_36 hf
        refine lv_aload_n S.1 S.2.1 dX5_go_39 rfl (lv_at hl 1 rfl) ?_
        refine lv_iload_n S.1 S.2.1 dX5_go_40 rfl (lv_at hl 0 rfl) ?_
        refine lv_aload_n S.1 S.2.1 dX5_go_41 rfl (lv_at hl 1 rfl) ?_
        refine M_get S hin hK hG 28 (by decide) (by decide +kernel) rfl dX5_go_42 ?_
        refine lv_iload_n S.1 S.2.1 dX5_go_45 rfl (lv_at hl 0 rfl) ?_
        refine r_iald S hK hG 18 0 rfl rfl (go_in hg c_20 (by assumption)) dX5_go_46 ?_
        refine r_callVv S hK hA hG (k_X5_goRule l _ _ _ _ _ _ (go_in hg c_20 (by assumption)) (go_id hg c_20 (by assumption)) (by obtain ⟨i, hi, -, ei⟩ := rv_at hg.1 (go_id hg c_20 (by assumption)); rw [ei]; exact (hg.1 i hi).1) (by obtain ⟨i, hi, -, ei⟩ := rv_at hg.1 (go_id hg c_20 (by assumption)); rw [ei]; exact (hg.1 i hi).2.1) (go_tp hg)) (cwV 2 S.2.2.2.2 gX5_go_X5_goRule rfl rfl rfl (by decide +kernel) ⟨Nat.le_of_ble_eq_true rfl, Nat.le_of_ble_eq_true rfl⟩) (va_recv hK hG.1 (ci := 5) (q0 := 0) rfl rfl) rfl hl.1 rfl (Nat.le_of_ble_eq_true rfl) dX5_go_47 ⟨Nat.le_of_ble_eq_true rfl, Nat.le_of_ble_eq_true rfl⟩ (fun σ4 H locs e_σ4 hG => ?_)
        have hf := bnd_p e_σ4 hf
        refine lv_goto (tgt := 64) S.1 S.2.1 dX5_go_50 (by decide) ?_
        refine lv_goto (tgt := 16) S.1 S.2.1 dX5_go_64 (by decide) ?_
        exact ih σ4 x1 x2 (by first | exact go_sR hg c_20 (by assumption) (by assumption) | exact go_sA hg c_20 (by assumption) (by assumption)) hf H locs hG ls (lv_sub hl [1, 2, 3] rfl)
def f_X5_go (σ : Mem) (x1 : Int32) (x2 : Int32) : Mem :=
  bnd (mset σ 0 25 0) fun σ1 =>
  bnd (mset σ1 0 26 0) fun σ2 =>
  bnd (f_X5_call σ2 x1 x2) fun σ3 =>
  f_X5_go_16 602 σ3 x1 x2
set_option maxRecDepth 100000 in
set_option maxHeartbeats 4000000 in
theorem b_X5_go_0 {p : Program} {l : Launch} {e : Env} {s : State} {m : MethodId} {args : Array Value} {below : List Frame} {meth : Method} {c : Code} {D : va_G} {cI : ClassId} {ad : Nat → Nat} {w0 : va_W} {X : Mem} (S : CallFix p m c cX5_go 4 s args wsX5_go RX5) (hr : meth.sig.returnType = none) (hlocks : meth.locks = false) (hK : va_K D vwCl [(cI, .int)] s) (hA : ∀ q, s.heap.size ≤ q → va_A w0 s.heap.size q) (σ : Mem) (x1 : Int32) (x2 : Int32) (hv : RV σ) (hw : WV σ) (hid : vp_in x2 40) (hf : f_X5_go σ x1 x2 = X) (H : Heap) (locs : List Loc) (hG : wI D vwCl (va_A w0 s.heap.size) s.heap H locs (RW ad cI σ)) (ls : Array Slot) (hl : lv_has ls 4 [(0, .ref (ad 0)), (1, .int x1), (2, .int x2)]) : W p l e ({ frames := 4, cells := 0, slots := 0, locals := 95 } : Room) s m args below meth c H locs 0 0 (MQ below (va_Qv (fun (u : Mem) => u = X) (fun u t => wPost D vwCl w0 s.heap.size ((fun u => RW ad cI u) u) t) (va_A w0 s.heap.size)) args s 0 0 (va_A w0 s.heap.size)) (F0 m 0 ls []) := by
  have hin := in_X5_go
  unfold f_X5_go at hf
  refine lv_aload_n S.1 S.2.1 dX5_go_0 rfl (lv_at hl 0 rfl) ?_
  refine lv_iconst (v := 0) S.1 S.2.1 dX5_go_1 (by decide) ?_
  refine M_put S hin hK hG 25 (by decide) (by decide +kernel) rfl rfl rfl (RWp_25 _ _ _ _) dX5_go_2 (fun σ1 H locs e_σ1 hG => ?_)
  have hf := bnd_p e_σ1 hf
  refine lv_aload_n S.1 S.2.1 dX5_go_5 rfl (lv_at hl 0 rfl) ?_
  refine lv_iconst (v := 0) S.1 S.2.1 dX5_go_6 (by decide) ?_
  refine M_put S hin hK hG 26 (by decide) (by decide +kernel) rfl rfl rfl (RWp_26 _ _ _ _) dX5_go_7 (fun σ2 H locs e_σ2 hG => ?_)
  have hf := bnd_p e_σ2 hf
  refine lv_aload_n S.1 S.2.1 dX5_go_10 rfl (lv_at hl 0 rfl) ?_
  refine lv_iload_n S.1 S.2.1 dX5_go_11 rfl (lv_at hl 1 rfl) ?_
  refine lv_iload_n S.1 S.2.1 dX5_go_12 rfl (lv_at hl 2 rfl) ?_
  refine r_callVv S hK hA hG (k_X5_call l _ _ _ _ _ _ (by rw [e_σ2, e_σ1]; intro _; exact (show vp_in (0 : Int32) 300 from vp_lit (by decide)))) (cwV 2 S.2.2.2.2 gX5_go_X5_call rfl rfl rfl (by decide +kernel) ⟨Nat.le_of_ble_eq_true rfl, Nat.le_of_ble_eq_true rfl⟩) (va_recv hK hG.1 (ci := 5) (q0 := 0) rfl rfl) rfl hl.1 rfl (Nat.le_of_ble_eq_true rfl) dX5_go_13 ⟨Nat.le_of_ble_eq_true rfl, Nat.le_of_ble_eq_true rfl⟩ (fun σ3 H locs e_σ3 hG => ?_)
  have hf := bnd_p e_σ3 hf
  exact b_X5_go_16 S hr hlocks hK hA 602 σ3 x1 x2 (go_0 hv hw hid (by rw [e_σ3, e_σ2, e_σ1])) hf H locs hG ls (lv_sub hl [0, 1, 2] rfl)
theorem k_X5_go (l : Launch) (D : va_G) (cI : ClassId) (ad : Nat → Nat) (σ : Mem) (x1 : Int32) (x2 : Int32) (hv : RV σ) (hw : WV σ) (hid : vp_in x2 40) : CMv l yX5_go wsX5_go ({ frames := 4, cells := 0, slots := 0, locals := 95 } : Room) D vwCl [(cI, .int)] (RW ad cI σ) [.ref (ad 0), .int x1, .int x2] (fun (u : Mem) => u = (f_X5_go σ x1 x2)) (fun u => RW ad cI u) :=
  r_met (by decide) rfl (Nat.le_of_ble_eq_true rfl) (fun p e s m args below meth c ls S hr hlocks _ hK hA hG hl => b_X5_go_0 S hr hlocks hK hA σ x1 x2 hv hw hid rfl _ _ hG ls hl)
end
section
/-- the reference's own bounds -/
def RInv (nr nx : Nat) (wy : Int32) (σ : Mem) : Prop := RV σ ∧ WV σ ∧ (σ 0 3 = nI nr ∧ nr ≤ 40) ∧ (σ 0 9 = nI nx ∧ nx ≤ 40) ∧ σ 0 24 = wy ∧ ∃ k : Nat, k ≤ 30 ∧ σ 0 17 = nI k
def GoP (σ τ : Mem) : Prop := (∀ r : Nat, (5 ≤ r ∧ r ≤ 8) ∨ (11 ≤ r ∧ r ≤ 14) → τ r = σ r) ∧ ∀ k : Nat, k ≤ 13 ∨ (15 ≤ k ∧ k ≤ 22) ∨ k = 24 → τ 0 k = σ 0 k
theorem Pres.go {σ τ υ : Mem} (h : Pres σ τ) (g : GoP τ υ) : GoP σ υ := ⟨fun r hr => (g.1 r hr).trans (h.1 r hr), fun k hk => (g.2 k hk).trans (h.2 k (by omega))⟩
theorem go_pR {n : Nat} {σ τ : Mem} {v : Int32} (h : GI (n + 1) σ) (c : ¬ σ 0 25 ≤ 0) (e : v = σ 0 25 - 1) (et : τ = f_X5_goRule σ v (σ 29 v.toNatClampNeg)) : Pres σ τ := by
  obtain ⟨t, g, m, hs, hm, ht, hle, ev, ec⟩ := go_t h c e
  obtain ⟨i, hi, ei⟩ := hs.top ht
  have h1 := st_goRule hs ht h.1 h.2.1 hi
  rw [et, ec, ei, ev]
  exact h1.2.1
theorem go_pA {n : Nat} {σ τ : Mem} {v : Int32} (h : GI (n + 1) σ) (c : ¬ σ 0 25 ≤ 0) (e : v = σ 0 25 - 1) (et : τ = f_X5_goAct σ v (σ 29 v.toNatClampNeg)) : Pres σ τ := by
  obtain ⟨t, g, m, hs, hm, ht, hle, ev, ec⟩ := go_t h c e
  obtain ⟨i, hi, ei⟩ := hs.top ht
  have h1 := st_goAct hs ht h.1 h.2.1 hi
  rw [et, ec, ei, ev]
  exact h1.2.1
theorem go_l : ∀ (n : Nat) (σ : Mem) (x1 x2 : Int32), GI n σ → (RV (f_X5_go_16 n σ x1 x2) ∧ WV (f_X5_go_16 n σ x1 x2)) ∧ GoP σ (f_X5_go_16 n σ x1 x2) := by
  intro n
  induction n with
  | zero =>
    intro σ x1 x2 h
    obtain ⟨-, -, t, g, m, -, q⟩ := h
    omega
  | succ n ih =>
    intro σ x1 x2 h
    unfold f_X5_go_16
    refine ite_i (P := fun τ => (RV τ ∧ WV τ) ∧ GoP σ τ) (fun c => ?_) (fun c => ?_)
    · refine bnd_i (P := fun τ => (RV τ ∧ WV τ) ∧ GoP σ τ) (fun z ez => ?_)
      rw [ez]
      refine ⟨⟨?_, h.2.1.col (by decide)⟩, fun r hr => mset_ne σ 23 _ (by omega), fun k hk => mset_n σ 0 _ (by omega)⟩
      intro i hi
      exact h.1 i hi
    · refine bnd_i (P := fun τ => (RV τ ∧ WV τ) ∧ GoP σ τ) (fun v e => ?_)
      refine ite_i (P := fun τ => (RV τ ∧ WV τ) ∧ GoP σ τ) (fun _ => ?_) (fun _ => ?_)
      · refine bnd_i (P := fun τ => (RV τ ∧ WV τ) ∧ GoP σ τ) (fun z ez => ?_)
        obtain ⟨a, b⟩ := ih z x1 x2 (go_sR h c e ez)
        exact ⟨a, (go_pR h c e ez).go b⟩
      · refine bnd_i (P := fun τ => (RV τ ∧ WV τ) ∧ GoP σ τ) (fun z ez => ?_)
        obtain ⟨a, b⟩ := ih z x1 x2 (go_sA h c e ez)
        exact ⟨a, (go_pA h c e ez).go b⟩
theorem call_pres {σ : Mem} (a b : Int32) : Pres σ (f_X5_call σ a b) := by
  unfold f_X5_call
  refine ite_i (P := Pres σ) (fun _ => ?_) (fun _ => ?_)
  · exact (Pres.col (by omega)).tr (Pres.col (by omega))
  · exact ((((Pres.col (by omega)).tr (Pres.row (by decide))).tr (Pres.row (by decide))).tr (Pres.row (by decide))).tr ((Pres.col (by omega)).tr (Pres.col (by omega)))
theorem go_all {σ : Mem} (x1 x2 : Int32) (hv : RV σ) (hw : WV σ) (hid : vp_in x2 40) : (RV (f_X5_go σ x1 x2) ∧ WV (f_X5_go σ x1 x2)) ∧ GoP σ (f_X5_go σ x1 x2) := by
  unfold f_X5_go
  refine bnd_i (P := fun τ => (RV τ ∧ WV τ) ∧ GoP σ τ) (fun s1 e1 => ?_)
  refine bnd_i (P := fun τ => (RV τ ∧ WV τ) ∧ GoP σ τ) (fun s2 e2 => ?_)
  refine bnd_i (P := fun τ => (RV τ ∧ WV τ) ∧ GoP σ τ) (fun s3 e3 => ?_)
  have hg : GI 602 s3 := go_0 hv hw hid (by rw [e3, e2, e1])
  obtain ⟨a, b⟩ := go_l 602 s3 x1 x2 hg
  refine ⟨a, Pres.go ?_ b⟩
  rw [e3, e2, e1]
  exact ((Pres.col (by omega)).tr (Pres.col (by omega))).tr (call_pres _ _)
theorem RInv.go {nr nx : Nat} {wy : Int32} {σ τ : Mem} {x1 x2 : Int32} (h : RInv nr nx wy σ) (hid : vp_in x2 40) (e : τ = f_X5_go σ x1 x2) : RInv nr nx wy τ := by
  obtain ⟨⟨a1, a2⟩, a3⟩ := go_all x1 x2 h.1 h.2.1 hid
  rw [← e] at a1 a2 a3
  refine ⟨a1, a2, ?_, ?_, ?_, ?_⟩
  · rw [a3.2 3 (by omega)]; exact h.2.2.1
  · rw [a3.2 9 (by omega)]; exact h.2.2.2.1
  · rw [a3.2 24 (by omega)]; exact h.2.2.2.2.1
  · rw [a3.2 17 (by omega)]; exact h.2.2.2.2.2
theorem RInv.col {nr nx k : Nat} {wy x : Int32} {σ τ : Mem} (h : RInv nr nx wy σ) (hk : k ≠ 3 ∧ k ≠ 9 ∧ k ≠ 14 ∧ k ≠ 17 ∧ k ≠ 24) (e : τ = mset σ 0 k x) : RInv nr nx wy τ := by
  obtain ⟨h1, h2, h3, h4, h5, h6⟩ := h
  rw [e]
  refine ⟨fun i hi => ?_, h2.col hk.2.2.1, ?_, ?_, ?_, ?_⟩
  · rw [mset_ne σ k x (show 5 ≠ 0 by decide), mset_ne σ k x (show 6 ≠ 0 by decide), mset_ne σ k x (show 7 ≠ 0 by decide), mset_ne σ k x (show 11 ≠ 0 by decide), mset_ne σ k x (show 12 ≠ 0 by decide), mset_ne σ k x (show 13 ≠ 0 by decide), mset_ne σ k x (show 14 ≠ 0 by decide)]
    exact h1 i hi
  · rw [mset_n σ 0 x (Ne.symm hk.1)]; exact h3
  · rw [mset_n σ 0 x (Ne.symm hk.2.1)]; exact h4
  · rw [mset_n σ 0 x (Ne.symm hk.2.2.2.2)]; exact h5
  · rw [mset_n σ 0 x (Ne.symm hk.2.2.2.1)]; exact h6
theorem RInv.row {nr nx r k : Nat} {wy x : Int32} {σ τ : Mem} (h : RInv nr nx wy σ) (hr : r ≠ 0 ∧ r ≠ 16 ∧ ¬ (5 ≤ r ∧ r ≤ 8) ∧ ¬ (11 ≤ r ∧ r ≤ 14)) (e : τ = mset σ r k x) : RInv nr nx wy τ := by
  obtain ⟨h1, h2, h3, h4, h5, h6⟩ := h
  rw [e]
  refine ⟨h1.of (Pres.row (by omega)), h2.row (by omega), ?_, ?_, ?_, ?_⟩
  · rw [mset_ne σ k x (show 0 ≠ r by omega)]; exact h3
  · rw [mset_ne σ k x (show 0 ≠ r by omega)]; exact h4
  · rw [mset_ne σ k x (show 0 ≠ r by omega)]; exact h5
  · rw [mset_ne σ k x (show 0 ≠ r by omega)]; exact h6
theorem RInv.y {nr nx : Nat} {wy x : Int32} {σ τ : Mem} (h : RInv nr nx wy σ) (e : τ = mset σ 0 24 x) : RInv nr nx x τ := by
  obtain ⟨h1, h2, h3, h4, h5, h6⟩ := h
  rw [e]
  exact ⟨fun i hi => h1 i hi, h2.col (by decide), h3, h4, rfl, h6⟩
theorem in_below {x c : Int32} {n : Nat} (h : ¬ bI (f_X5_in x 0 (c - 1)) = 0) (hc : c = nI n) (hn : n ≤ 40) : vp_in x n := by
  obtain ⟨h1, h2⟩ := ri_in h
  rcases Nat.eq_zero_or_pos n with q | q
  · subst q
    rw [hc] at h2
    rw [Int32.le_iff_toInt_le] at h1 h2
    exact absurd (Int.le_trans h1 h2) (by decide)
  · rw [hc, nI_p q, Int32.le_iff_toInt_le, nI_toInt (by omega)] at h2
    rw [Int32.le_iff_toInt_le, Int32.toInt_zero] at h1
    exact vp_in_iff.mpr ⟨h1, by omega⟩
theorem is_rule {nr nx : Nat} {wy x : Int32} {σ : Mem} (h : RInv nr nx wy σ) (c : ¬ bI (f_X5_isRule σ x) = 0) : vp_in x nr := in_below c h.2.2.1.1 h.2.2.1.2
theorem is_act {nr nx : Nat} {wy x : Int32} {σ : Mem} (h : RInv nr nx wy σ) (c : ¬ bI (f_X5_isAct σ x) = 0) : vp_in x nx := in_below c h.2.2.2.1.1 h.2.2.2.1.2
/-- the loop of due(): downwards -/
def dnI (n : Nat) (k : Int32) : Prop := ∃ q : Nat, q ≤ 60 ∧ k = nI q - 1 ∧ q < n
theorem dn_in {n : Nat} {k : Int32} (h : dnI n k) (c : ¬ k < 0) : vp_in k 60 ∧ ∀ v : Int32, v = k + (-1) → dnI (n - 1) v := by
  obtain ⟨q, h1, h2, h3⟩ := h
  rcases Nat.eq_zero_or_pos q with z | z
  · subst z
    exact absurd (by rw [h2]; decide) c
  · rw [nI_p z] at h2
    refine ⟨by rw [h2]; exact vp_in_nI (by omega) (by decide), fun v e => ⟨q - 1, by omega, ?_, by omega⟩⟩
    rw [e, h2]
    obtain ⟨j, hj⟩ : ∃ j, q - 1 = j := ⟨_, rfl⟩
    rw [hj]
    exact (Int32.sub_eq_add_neg (nI j) 1).symm
theorem in_X5_ask : ∀ w ∈ wsX50, w ∈ wsX5_ask := by decide +kernel
def f_X5_ask (σ : Mem) (x1 : Int32) : Int32 × Mem :=
  (if (bI (f_X5_isRule σ x1)) = 0 then
  ((-2), σ)
  else
  (if (σ 0 23) < 20000 then
  bnd (f_X5_go σ 0 x1) fun σ1 =>
  bnd (mset σ1 0 22 (σ1 0 26)) fun σ2 =>
  (if (σ2 0 35) = 0 then
  (σ2 0 34, σ2)
  else
  ((-10) - (σ2 0 35), σ2))
  else
  ((-4), σ)))
set_option maxRecDepth 100000 in
set_option maxHeartbeats 4000000 in
theorem b_X5_ask_0 {p : Program} {l : Launch} {e : Env} {s : State} {m : MethodId} {args : Array Value} {below : List Frame} {meth : Method} {c : Code} {D : va_G} {cI : ClassId} {ad : Nat → Nat} {w0 : va_W} {nr nx : Nat} {wy : Int32} {X : Int32 × Mem} (S : CallFix p m c cX5_ask 2 s args wsX5_ask RX5) (hr : meth.sig.returnType = (some .int)) (hlocks : meth.locks = false) (hK : va_K D vwCl [(cI, .int)] s) (hA : ∀ q, s.heap.size ≤ q → va_A w0 s.heap.size q) (σ : Mem) (x1 : Int32) (hI : RInv nr nx wy σ) (hf : f_X5_ask σ x1 = X) (H : Heap) (locs : List Loc) (hG : wI D vwCl (va_A w0 s.heap.size) s.heap H locs (RW ad cI σ)) (ls : Array Slot) (hl : lv_has ls 2 [(0, .ref (ad 0)), (1, .int x1)]) : W p l e ({ frames := 5, cells := 0, slots := 0, locals := 118 } : Room) s m args below meth c H locs 0 0 (MQ below (va_Qi (fun (r : Int32) (u : Mem) => (r, u) = X) (fun u t => wPost D vwCl w0 s.heap.size ((fun u => RW ad cI u) u) t) (va_A w0 s.heap.size)) args s 0 0 (va_A w0 s.heap.size)) (F0 m 0 ls []) := by
  have hin := in_X5_ask
  unfold f_X5_ask at hf
  refine lv_aload_n S.1 S.2.1 dX5_ask_0 rfl (lv_at hl 0 rfl) ?_
  refine lv_iload_n S.1 S.2.1 dX5_ask_1 rfl (lv_at hl 1 rfl) ?_
  refine r_callVi S hK hA hG (k_X5_isRule l _ _ _ _ _) (cwV 1 S.2.2.2.2 gX5_ask_X5_isRule rfl rfl rfl (by decide +kernel) ⟨Nat.le_of_ble_eq_true rfl, Nat.le_of_ble_eq_true rfl⟩) (va_recv hK hG.1 (ci := 5) (q0 := 0) rfl rfl) rfl hl.1 rfl (Nat.le_of_ble_eq_true rfl) dX5_ask_2 ⟨Nat.le_of_ble_eq_true rfl, Nat.le_of_ble_eq_true rfl⟩ (fun r2 _ H locs hw hG => ?_)
  obtain rfl := hw
  refine lv_if_ne (tgt := 11) S.1 S.2.1 dX5_ask_5 (by decide) (fun c_5 => ?_) (fun c_5 => ?_)
  · have hf := ite_n c_5 hf
    refine lv_aload_n S.1 S.2.1 dX5_ask_11 rfl (lv_at hl 0 rfl) ?_
    refine M_get S hin hK hG 23 (by decide) (by decide +kernel) rfl dX5_ask_12 ?_
    refine lv_sipush (v := 20000) S.1 S.2.1 dX5_ask_15 (by decide) ?_
    refine lv_icmp_lt (tgt := 24) S.1 S.2.1 dX5_ask_18 (by decide) (fun c_18 => ?_) (fun c_18 => ?_)
    · have hf := ite_p c_18 hf
      refine lv_aload_n S.1 S.2.1 dX5_ask_24 rfl (lv_at hl 0 rfl) ?_
      refine lv_iconst (v := 0) S.1 S.2.1 dX5_ask_25 (by decide) ?_
      refine lv_iload_n S.1 S.2.1 dX5_ask_26 rfl (lv_at hl 1 rfl) ?_
      refine r_callVv S hK hA hG (k_X5_go l _ _ _ _ _ _ hI.1 hI.2.1 (vp_mono (is_rule hI c_5) hI.2.2.1.2)) (cwV 2 S.2.2.2.2 gX5_ask_X5_go rfl rfl rfl (by decide +kernel) ⟨Nat.le_of_ble_eq_true rfl, Nat.le_of_ble_eq_true rfl⟩) (va_recv hK hG.1 (ci := 5) (q0 := 0) rfl rfl) rfl hl.1 rfl (Nat.le_of_ble_eq_true rfl) dX5_ask_27 ⟨Nat.le_of_ble_eq_true rfl, Nat.le_of_ble_eq_true rfl⟩ (fun σ1 H locs e_σ1 hG => ?_)
      have hf := bnd_p e_σ1 hf
      refine lv_aload_n S.1 S.2.1 dX5_ask_30 rfl (lv_at hl 0 rfl) ?_
      refine lv_aload_n S.1 S.2.1 dX5_ask_31 rfl (lv_at hl 0 rfl) ?_
      refine M_get S hin hK hG 26 (by decide) (by decide +kernel) rfl dX5_ask_32 ?_
      refine M_put S hin hK hG 22 (by decide) (by decide +kernel) rfl rfl rfl (RWp_22 _ _ _ _) dX5_ask_35 (fun σ2 H locs e_σ2 hG => ?_)
      have hf := bnd_p e_σ2 hf
      refine lv_aload_n S.1 S.2.1 dX5_ask_38 rfl (lv_at hl 0 rfl) ?_
      refine M_get S hin hK hG 35 (by decide) (by decide +kernel) rfl dX5_ask_39 ?_
      refine lv_if_eq (tgt := 55) S.1 S.2.1 dX5_ask_42 (by decide) (fun c_42 => ?_) (fun c_42 => ?_)
      · have hf := ite_p c_42 hf
        refine lv_aload_n S.1 S.2.1 dX5_ask_55 rfl (lv_at hl 0 rfl) ?_
        refine M_get S hin hK hG 34 (by decide) (by decide +kernel) rfl dX5_ask_56 ?_
        exact r_iret S hr hlocks hG _ rfl hf rfl dX5_ask_59
      · have hf := ite_n c_42 hf
        refine lv_bipush (v := (-10)) S.1 S.2.1 dX5_ask_45 (by decide) ?_
        refine lv_aload_n S.1 S.2.1 dX5_ask_47 rfl (lv_at hl 0 rfl) ?_
        refine M_get S hin hK hG 35 (by decide) (by decide +kernel) rfl dX5_ask_48 ?_
        refine lv_isub S.1 S.2.1 dX5_ask_51 ?_
        refine lv_goto (tgt := 59) S.1 S.2.1 dX5_ask_52 (by decide) ?_
        exact r_iret S hr hlocks hG _ rfl hf rfl dX5_ask_59
    · have hf := ite_n c_18 hf
      refine lv_bipush (v := (-4)) S.1 S.2.1 dX5_ask_21 (by decide) ?_
      exact r_iret S hr hlocks hG _ rfl hf rfl dX5_ask_23
  · have hf := ite_p c_5 hf
    refine lv_bipush (v := (-2)) S.1 S.2.1 dX5_ask_8 (by decide) ?_
    exact r_iret S hr hlocks hG _ rfl hf rfl dX5_ask_10
theorem k_X5_ask (l : Launch) (D : va_G) (cI : ClassId) (ad : Nat → Nat) (σ : Mem) (x1 : Int32) {nr nx : Nat} {wy : Int32} (hI : RInv nr nx wy σ) : CMi l yX5_ask wsX5_ask ({ frames := 5, cells := 0, slots := 0, locals := 118 } : Room) D vwCl [(cI, .int)] (RW ad cI σ) [.ref (ad 0), .int x1] (fun (r : Int32) (u : Mem) => (r, u) = (f_X5_ask σ x1)) (fun u => RW ad cI u) :=
  r_met (by decide) rfl (Nat.le_of_ble_eq_true rfl) (fun p e s m args below meth c ls S hr hlocks _ hK hA hG hl => b_X5_ask_0 S hr hlocks hK hA σ x1 hI rfl _ _ hG ls hl)
theorem in_X5_run : ∀ w ∈ wsX50, w ∈ wsX5_run := by decide +kernel
def f_X5_run (σ : Mem) (x1 : Int32) : Int32 × Mem :=
  (if (bI (f_X5_isAct σ x1)) = 0 then
  ((-2), σ)
  else
  (if (σ 0 23) < 20000 then
  bnd (f_X5_go σ 1 x1) fun σ1 =>
  bnd (mset σ1 0 22 (σ1 0 26)) fun σ2 =>
  (if (σ2 0 35) = 0 then
  bnd (mset σ2 0 21 (σ2 0 34)) fun σ3 =>
  (if (σ2 0 35) = 0 then
  (1, σ3)
  else
  ((-10) - (σ2 0 35), σ3))
  else
  bnd (mset σ2 0 21 0) fun σ4 =>
  (if (σ2 0 35) = 0 then
  (1, σ4)
  else
  ((-10) - (σ2 0 35), σ4)))
  else
  ((-4), σ)))
set_option maxRecDepth 100000 in
set_option maxHeartbeats 4000000 in
theorem b_X5_run_0 {p : Program} {l : Launch} {e : Env} {s : State} {m : MethodId} {args : Array Value} {below : List Frame} {meth : Method} {c : Code} {D : va_G} {cI : ClassId} {ad : Nat → Nat} {w0 : va_W} {nr nx : Nat} {wy : Int32} {X : Int32 × Mem} (S : CallFix p m c cX5_run 2 s args wsX5_run RX5) (hr : meth.sig.returnType = (some .int)) (hlocks : meth.locks = false) (hK : va_K D vwCl [(cI, .int)] s) (hA : ∀ q, s.heap.size ≤ q → va_A w0 s.heap.size q) (σ : Mem) (x1 : Int32) (hI : RInv nr nx wy σ) (hf : f_X5_run σ x1 = X) (H : Heap) (locs : List Loc) (hG : wI D vwCl (va_A w0 s.heap.size) s.heap H locs (RW ad cI σ)) (ls : Array Slot) (hl : lv_has ls 2 [(0, .ref (ad 0)), (1, .int x1)]) : W p l e ({ frames := 5, cells := 0, slots := 0, locals := 118 } : Room) s m args below meth c H locs 0 0 (MQ below (va_Qi (fun (r : Int32) (u : Mem) => (r, u) = X) (fun u t => wPost D vwCl w0 s.heap.size ((fun u => RW ad cI u) u) t) (va_A w0 s.heap.size)) args s 0 0 (va_A w0 s.heap.size)) (F0 m 0 ls []) := by
  have hin := in_X5_run
  unfold f_X5_run at hf
  refine lv_aload_n S.1 S.2.1 dX5_run_0 rfl (lv_at hl 0 rfl) ?_
  refine lv_iload_n S.1 S.2.1 dX5_run_1 rfl (lv_at hl 1 rfl) ?_
  refine r_callVi S hK hA hG (k_X5_isAct l _ _ _ _ _) (cwV 1 S.2.2.2.2 gX5_run_X5_isAct rfl rfl rfl (by decide +kernel) ⟨Nat.le_of_ble_eq_true rfl, Nat.le_of_ble_eq_true rfl⟩) (va_recv hK hG.1 (ci := 5) (q0 := 0) rfl rfl) rfl hl.1 rfl (Nat.le_of_ble_eq_true rfl) dX5_run_2 ⟨Nat.le_of_ble_eq_true rfl, Nat.le_of_ble_eq_true rfl⟩ (fun r2 _ H locs hw hG => ?_)
  obtain rfl := hw
  refine lv_if_ne (tgt := 11) S.1 S.2.1 dX5_run_5 (by decide) (fun c_5 => ?_) (fun c_5 => ?_)
  · have hf := ite_n c_5 hf
    refine lv_aload_n S.1 S.2.1 dX5_run_11 rfl (lv_at hl 0 rfl) ?_
    refine M_get S hin hK hG 23 (by decide) (by decide +kernel) rfl dX5_run_12 ?_
    refine lv_sipush (v := 20000) S.1 S.2.1 dX5_run_15 (by decide) ?_
    refine lv_icmp_lt (tgt := 24) S.1 S.2.1 dX5_run_18 (by decide) (fun c_18 => ?_) (fun c_18 => ?_)
    · have hf := ite_p c_18 hf
      refine lv_aload_n S.1 S.2.1 dX5_run_24 rfl (lv_at hl 0 rfl) ?_
      refine lv_iconst (v := 1) S.1 S.2.1 dX5_run_25 (by decide) ?_
      refine lv_iload_n S.1 S.2.1 dX5_run_26 rfl (lv_at hl 1 rfl) ?_
      refine r_callVv S hK hA hG (k_X5_go l _ _ _ _ _ _ hI.1 hI.2.1 (vp_mono (is_act hI c_5) hI.2.2.2.1.2)) (cwV 2 S.2.2.2.2 gX5_run_X5_go rfl rfl rfl (by decide +kernel) ⟨Nat.le_of_ble_eq_true rfl, Nat.le_of_ble_eq_true rfl⟩) (va_recv hK hG.1 (ci := 5) (q0 := 0) rfl rfl) rfl hl.1 rfl (Nat.le_of_ble_eq_true rfl) dX5_run_27 ⟨Nat.le_of_ble_eq_true rfl, Nat.le_of_ble_eq_true rfl⟩ (fun σ1 H locs e_σ1 hG => ?_)
      have hf := bnd_p e_σ1 hf
      refine lv_aload_n S.1 S.2.1 dX5_run_30 rfl (lv_at hl 0 rfl) ?_
      refine lv_aload_n S.1 S.2.1 dX5_run_31 rfl (lv_at hl 0 rfl) ?_
      refine M_get S hin hK hG 26 (by decide) (by decide +kernel) rfl dX5_run_32 ?_
      refine M_put S hin hK hG 22 (by decide) (by decide +kernel) rfl rfl rfl (RWp_22 _ _ _ _) dX5_run_35 (fun σ2 H locs e_σ2 hG => ?_)
      have hf := bnd_p e_σ2 hf
      refine lv_aload_n S.1 S.2.1 dX5_run_38 rfl (lv_at hl 0 rfl) ?_
      refine lv_aload_n S.1 S.2.1 dX5_run_39 rfl (lv_at hl 0 rfl) ?_
      refine M_get S hin hK hG 35 (by decide) (by decide +kernel) rfl dX5_run_40 ?_
      refine lv_if_eq (tgt := 50) S.1 S.2.1 dX5_run_43 (by decide) (fun c_43 => ?_) (fun c_43 => ?_)
      · have hf := ite_p c_43 hf
        refine lv_aload_n S.1 S.2.1 dX5_run_50 rfl (lv_at hl 0 rfl) ?_
        refine M_get S hin hK hG 34 (by decide) (by decide +kernel) rfl dX5_run_51 ?_
        refine M_put S hin hK hG 21 (by decide) (by decide +kernel) rfl rfl rfl (RWp_21 _ _ _ _) dX5_run_54 (fun σ3 H locs e_σ3 hG => ?_)
        have hf := bnd_p e_σ3 hf
        refine lv_aload_n S.1 S.2.1 dX5_run_57 rfl (lv_at hl 0 rfl) ?_
        refine M_get S hin hK hG 35 (v := .int (σ2 0 35)) (by decide) (by decide +kernel) (by rw [e_σ3]; rfl) dX5_run_58 ?_
        refine lv_if_eq (tgt := 74) S.1 S.2.1 dX5_run_61 (by decide) (fun c_61 => ?_) (fun c_61 => ?_)
        · have hf := ite_p c_61 hf
          refine lv_iconst (v := 1) S.1 S.2.1 dX5_run_74 (by decide) ?_
          exact r_iret S hr hlocks hG _ rfl hf rfl dX5_run_75
        · have hf := ite_n c_61 hf
          refine lv_bipush (v := (-10)) S.1 S.2.1 dX5_run_64 (by decide) ?_
          refine lv_aload_n S.1 S.2.1 dX5_run_66 rfl (lv_at hl 0 rfl) ?_
          refine M_get S hin hK hG 35 (v := .int (σ2 0 35)) (by decide) (by decide +kernel) (by rw [e_σ3]; rfl) dX5_run_67 ?_
          refine lv_isub S.1 S.2.1 dX5_run_70 ?_
          refine lv_goto (tgt := 75) S.1 S.2.1 dX5_run_71 (by decide) ?_
          exact r_iret S hr hlocks hG _ rfl hf rfl dX5_run_75
      · have hf := ite_n c_43 hf
        refine lv_iconst (v := 0) S.1 S.2.1 dX5_run_46 (by decide) ?_
        refine lv_goto (tgt := 54) S.1 S.2.1 dX5_run_47 (by decide) ?_
        refine M_put S hin hK hG 21 (by decide) (by decide +kernel) rfl rfl rfl (RWp_21 _ _ _ _) dX5_run_54 (fun σ4 H locs e_σ4 hG => ?_)
        have hf := bnd_p e_σ4 hf
        refine lv_aload_n S.1 S.2.1 dX5_run_57 rfl (lv_at hl 0 rfl) ?_
        refine M_get S hin hK hG 35 (v := .int (σ2 0 35)) (by decide) (by decide +kernel) (by rw [e_σ4]; rfl) dX5_run_58 ?_
        refine lv_if_eq (tgt := 74) S.1 S.2.1 dX5_run_61 (by decide) (fun c_61 => ?_) (fun c_61 => ?_)
        · have hf := ite_p c_61 hf
          refine lv_iconst (v := 1) S.1 S.2.1 dX5_run_74 (by decide) ?_
          exact r_iret S hr hlocks hG _ rfl hf rfl dX5_run_75
        · have hf := ite_n c_61 hf
          refine lv_bipush (v := (-10)) S.1 S.2.1 dX5_run_64 (by decide) ?_
          refine lv_aload_n S.1 S.2.1 dX5_run_66 rfl (lv_at hl 0 rfl) ?_
          refine M_get S hin hK hG 35 (v := .int (σ2 0 35)) (by decide) (by decide +kernel) (by rw [e_σ4]; rfl) dX5_run_67 ?_
          refine lv_isub S.1 S.2.1 dX5_run_70 ?_
          refine lv_goto (tgt := 75) S.1 S.2.1 dX5_run_71 (by decide) ?_
          exact r_iret S hr hlocks hG _ rfl hf rfl dX5_run_75
    · have hf := ite_n c_18 hf
      refine lv_bipush (v := (-4)) S.1 S.2.1 dX5_run_21 (by decide) ?_
      exact r_iret S hr hlocks hG _ rfl hf rfl dX5_run_23
  · have hf := ite_p c_5 hf
    refine lv_bipush (v := (-2)) S.1 S.2.1 dX5_run_8 (by decide) ?_
    exact r_iret S hr hlocks hG _ rfl hf rfl dX5_run_10
theorem k_X5_run (l : Launch) (D : va_G) (cI : ClassId) (ad : Nat → Nat) (σ : Mem) (x1 : Int32) {nr nx : Nat} {wy : Int32} (hI : RInv nr nx wy σ) : CMi l yX5_run wsX5_run ({ frames := 5, cells := 0, slots := 0, locals := 118 } : Room) D vwCl [(cI, .int)] (RW ad cI σ) [.ref (ad 0), .int x1] (fun (r : Int32) (u : Mem) => (r, u) = (f_X5_run σ x1)) (fun u => RW ad cI u) :=
  r_met (by decide) rfl (Nat.le_of_ble_eq_true rfl) (fun p e s m args below meth c ls S hr hlocks _ hK hA hG hl => b_X5_run_0 S hr hlocks hK hA σ x1 hI rfl _ _ hG ls hl)
theorem in_X5_failed : ∀ w ∈ wsX50, w ∈ wsX5_failed := by decide +kernel
def f_X5_failed (σ : Mem) (x1 : Int32) (x2 : Int32) : Int32 :=
  (if (bI (f_X5_in x2 0 2)) = 0 then
  (-3)
  else
  (if (bI (f_X5_in x1 0 ((σ 0 17) - 1))) = 0 then
  (-1)
  else
  (if x2 = 0 then
  σ 19 x1.toNatClampNeg
  else
  (if x2 = 1 then
  σ 20 x1.toNatClampNeg
  else
  σ 21 x1.toNatClampNeg))))
set_option maxRecDepth 100000 in
set_option maxHeartbeats 4000000 in
theorem b_X5_failed_0 {p : Program} {l : Launch} {e : Env} {s : State} {m : MethodId} {args : Array Value} {below : List Frame} {meth : Method} {c : Code} {D : va_G} {cI : ClassId} {ad : Nat → Nat} {w0 : va_W} {X : Int32} (S : CallFix p m c cX5_failed 3 s args wsX5_failed RX5) (hr : meth.sig.returnType = (some .int)) (hlocks : meth.locks = false) (hK : va_K D vwCl [(cI, .int)] s) (hA : ∀ q, s.heap.size ≤ q → va_A w0 s.heap.size q) (σ : Mem) (x1 : Int32) (x2 : Int32) (hk : ∃ k : Nat, k ≤ 30 ∧ σ 0 17 = nI k) (hf : f_X5_failed σ x1 x2 = X) (H : Heap) (locs : List Loc) (hG : wI D vwCl (va_A w0 s.heap.size) s.heap H locs (RW ad cI σ)) (ls : Array Slot) (hl : lv_has ls 3 [(0, .ref (ad 0)), (1, .int x1), (2, .int x2)]) : W p l e ({ frames := 1, cells := 0, slots := 0, locals := 22 } : Room) s m args below meth c H locs 0 0 (MQ below (va_Qi (fun (r : Int32) (_ : Unit) => r = X) (fun u t => wPost D vwCl w0 s.heap.size ((fun _ => RW ad cI σ) u) t) (va_A w0 s.heap.size)) args s 0 0 (va_A w0 s.heap.size)) (F0 m 0 ls []) := by
  have hin := in_X5_failed
  unfold f_X5_failed at hf
  refine lv_iload_n S.1 S.2.1 dX5_failed_0 rfl (lv_at hl 2 rfl) ?_
  refine lv_iconst (v := 0) S.1 S.2.1 dX5_failed_1 (by decide) ?_
  refine lv_iconst (v := 2) S.1 S.2.1 dX5_failed_2 (by decide) ?_
  refine r_callSi S hK hA hG (k_X5_in l _ _ _ _ _ _ _) (cwS 3 S.2.2.2.2 gX5_failed_X5_in rfl rfl rfl (by decide +kernel) ⟨Nat.le_of_ble_eq_true rfl, Nat.le_of_ble_eq_true rfl⟩) rfl hl.1 rfl (Nat.le_of_ble_eq_true rfl) dX5_failed_3 ⟨Nat.le_of_ble_eq_true rfl, Nat.le_of_ble_eq_true rfl⟩ (fun r3 _ H locs hw hG => ?_)
  obtain rfl := hw
  refine lv_if_ne (tgt := 12) S.1 S.2.1 dX5_failed_6 (by decide) (fun c_6 => ?_) (fun c_6 => ?_)
  · have hf := ite_n c_6 hf
    refine lv_iload_n S.1 S.2.1 dX5_failed_12 rfl (lv_at hl 1 rfl) ?_
    refine lv_iconst (v := 0) S.1 S.2.1 dX5_failed_13 (by decide) ?_
    refine lv_aload_n S.1 S.2.1 dX5_failed_14 rfl (lv_at hl 0 rfl) ?_
    refine M_get S hin hK hG 17 (by decide) (by decide +kernel) rfl dX5_failed_15 ?_
    refine lv_iconst (v := 1) S.1 S.2.1 dX5_failed_18 (by decide) ?_
    refine lv_isub S.1 S.2.1 dX5_failed_19 ?_
    refine r_callSi S hK hA hG (k_X5_in l _ _ _ _ _ _ _) (cwS 3 S.2.2.2.2 gX5_failed_X5_in rfl rfl rfl (by decide +kernel) ⟨Nat.le_of_ble_eq_true rfl, Nat.le_of_ble_eq_true rfl⟩) rfl hl.1 rfl (Nat.le_of_ble_eq_true rfl) dX5_failed_20 ⟨Nat.le_of_ble_eq_true rfl, Nat.le_of_ble_eq_true rfl⟩ (fun r20 _ H locs hw hG => ?_)
    obtain rfl := hw
    refine lv_if_ne (tgt := 28) S.1 S.2.1 dX5_failed_23 (by decide) (fun c_23 => ?_) (fun c_23 => ?_)
    · have hf := ite_n c_23 hf
      refine lv_iload_n S.1 S.2.1 dX5_failed_28 rfl (lv_at hl 2 rfl) ?_
      refine lv_if_ne (tgt := 41) S.1 S.2.1 dX5_failed_29 (by decide) (fun c_29 => ?_) (fun c_29 => ?_)
      · have hf := ite_n c_29 hf
        refine lv_iload_n S.1 S.2.1 dX5_failed_41 rfl (lv_at hl 2 rfl) ?_
        refine lv_iconst (v := 1) S.1 S.2.1 dX5_failed_42 (by decide) ?_
        refine lv_icmp_ne (tgt := 55) S.1 S.2.1 dX5_failed_43 (by decide) (fun c_43 => ?_) (fun c_43 => ?_)
        · have hf := ite_n c_43 hf
          refine lv_aload_n S.1 S.2.1 dX5_failed_55 rfl (lv_at hl 0 rfl) ?_
          refine M_get S hin hK hG 20 (by decide) (by decide +kernel) rfl dX5_failed_56 ?_
          refine lv_iload_n S.1 S.2.1 dX5_failed_59 rfl (lv_at hl 1 rfl) ?_
          refine r_iald S hK hG 16 0 rfl rfl (by obtain ⟨k, h1, h2⟩ := hk; exact vp_mono (in_below c_23 h2 (by omega)) h1) dX5_failed_60 ?_
          exact r_iret S hr hlocks hG () rfl hf rfl dX5_failed_61
        · have hf := ite_p c_43 hf
          refine lv_aload_n S.1 S.2.1 dX5_failed_46 rfl (lv_at hl 0 rfl) ?_
          refine M_get S hin hK hG 19 (by decide) (by decide +kernel) rfl dX5_failed_47 ?_
          refine lv_iload_n S.1 S.2.1 dX5_failed_50 rfl (lv_at hl 1 rfl) ?_
          refine r_iald S hK hG 15 0 rfl rfl (by obtain ⟨k, h1, h2⟩ := hk; exact vp_mono (in_below c_23 h2 (by omega)) h1) dX5_failed_51 ?_
          refine lv_goto (tgt := 61) S.1 S.2.1 dX5_failed_52 (by decide) ?_
          exact r_iret S hr hlocks hG () rfl hf rfl dX5_failed_61
      · have hf := ite_p c_29 hf
        refine lv_aload_n S.1 S.2.1 dX5_failed_32 rfl (lv_at hl 0 rfl) ?_
        refine M_get S hin hK hG 18 (by decide) (by decide +kernel) rfl dX5_failed_33 ?_
        refine lv_iload_n S.1 S.2.1 dX5_failed_36 rfl (lv_at hl 1 rfl) ?_
        refine r_iald S hK hG 14 0 rfl rfl (by obtain ⟨k, h1, h2⟩ := hk; exact vp_mono (in_below c_23 h2 (by omega)) h1) dX5_failed_37 ?_
        refine lv_goto (tgt := 61) S.1 S.2.1 dX5_failed_38 (by decide) ?_
        exact r_iret S hr hlocks hG () rfl hf rfl dX5_failed_61
    · have hf := ite_p c_23 hf
      refine lv_iconst (v := (-1)) S.1 S.2.1 dX5_failed_26 (by decide) ?_
      exact r_iret S hr hlocks hG () rfl hf rfl dX5_failed_27
  · have hf := ite_p c_6 hf
    refine lv_bipush (v := (-3)) S.1 S.2.1 dX5_failed_9 (by decide) ?_
    exact r_iret S hr hlocks hG () rfl hf rfl dX5_failed_11
theorem k_X5_failed (l : Launch) (D : va_G) (cI : ClassId) (ad : Nat → Nat) (σ : Mem) (x1 : Int32) (x2 : Int32) (hk : ∃ k : Nat, k ≤ 30 ∧ σ 0 17 = nI k) : CMi l yX5_failed wsX5_failed ({ frames := 1, cells := 0, slots := 0, locals := 22 } : Room) D vwCl [(cI, .int)] (RW ad cI σ) [.ref (ad 0), .int x1, .int x2] (fun (r : Int32) (_ : Unit) => r = (f_X5_failed σ x1 x2)) (fun _ => RW ad cI σ) :=
  r_met (by decide) rfl (Nat.le_of_ble_eq_true rfl) (fun p e s m args below meth c ls S hr hlocks _ hK hA hG hl => b_X5_failed_0 S hr hlocks hK hA σ x1 x2 hk rfl _ _ hG ls hl)
theorem in_X5_due : ∀ w ∈ wsX50, w ∈ wsX5_due := by decide +kernel
def f_X5_due_9 : Nat → Mem → Int32 → Int32 → Int32
  | 0, σ, _, _ => 0
  | n + 1, σ, a, k =>
  (if k < 0 then
  a
  else
  (if (σ 17 k.toNatClampNeg) = (σ 0 2) then
  bnd (k + (-1)) fun v2 =>
  f_X5_due_9 n σ k v2
  else
  bnd (k + (-1)) fun v1 =>
  f_X5_due_9 n σ a v1))
set_option maxRecDepth 100000 in
set_option maxHeartbeats 4000000 in
theorem b_X5_due_9 {p : Program} {l : Launch} {e : Env} {s : State} {m : MethodId} {args : Array Value} {below : List Frame} {meth : Method} {c : Code} {D : va_G} {cI : ClassId} {ad : Nat → Nat} {w0 : va_W} {X : Int32} (S : CallFix p m c cX5_due 3 s args wsX5_due RX5) (hr : meth.sig.returnType = (some .int)) (hlocks : meth.locks = false) (hK : va_K D vwCl [(cI, .int)] s) (hA : ∀ q, s.heap.size ≤ q → va_A w0 s.heap.size q) : ∀ (n : Nat) (σ : Mem) (a : Int32) (k : Int32) (hd : dnI n k), f_X5_due_9 n σ a k = X → ∀ (H : Heap) (locs : List Loc), wI D vwCl (va_A w0 s.heap.size) s.heap H locs (RW ad cI σ) → ∀ (ls : Array Slot), lv_has ls 3 [(0, .ref (ad 0)), (1, .int a), (2, .int k)] → W p l e ({ frames := 0, cells := 0, slots := 0, locals := 0 } : Room) s m args below meth c H locs 0 0 (MQ below (va_Qi (fun (r : Int32) (_ : Unit) => r = X) (fun u t => wPost D vwCl w0 s.heap.size ((fun _ => RW ad cI σ) u) t) (va_A w0 s.heap.size)) args s 0 0 (va_A w0 s.heap.size)) (F0 m 9 ls []) := by
  have hin := in_X5_due
  intro n
  induction n with
  | zero =>
    intro σ a k hd
    exact (by obtain ⟨q, -, -, h⟩ := hd; omega)
  | succ n ih =>
    intro σ a k hd hf H locs hG ls hl
    unfold f_X5_due_9 at hf
    refine lv_iload_n S.1 S.2.1 dX5_due_9 rfl (lv_at hl 2 rfl) ?_
    refine lv_if_lt (tgt := 38) S.1 S.2.1 dX5_due_10 (by decide) (fun c_10 => ?_) (fun c_10 => ?_)
    · have hf := ite_p c_10 hf
      refine lv_iload_n S.1 S.2.1 dX5_due_38 rfl (lv_at hl 1 rfl) ?_
      exact r_iret S hr hlocks hG () rfl hf rfl dX5_due_39
    · have hf := ite_n c_10 hf
      refine lv_aload_n S.1 S.2.1 dX5_due_13 rfl (lv_at hl 0 rfl) ?_
      refine M_get S hin hK hG 16 (by decide) (by decide +kernel) rfl dX5_due_14 ?_
      refine lv_iload_n S.1 S.2.1 dX5_due_17 rfl (lv_at hl 2 rfl) ?_
      refine r_iald S hK hG 13 0 rfl rfl (dn_in hd c_10).1 dX5_due_18 ?_
      refine lv_aload_n S.1 S.2.1 dX5_due_19 rfl (lv_at hl 0 rfl) ?_
      refine M_get S hin hK hG 2 (by decide) (by decide +kernel) rfl dX5_due_20 ?_
      refine lv_icmp_ne (tgt := 30) S.1 S.2.1 dX5_due_23 (by decide) (fun c_23 => ?_) (fun c_23 => ?_)
      · have hf := ite_n c_23 hf
        refine lv_iload_n S.1 S.2.1 dX5_due_30 rfl (lv_at hl 1 rfl) ?_
        refine lv_istore_n (lv' := [(1, .int a), (0, .ref (ad 0)), (2, .int k)]) S.1 S.2.1 dX5_due_31 rfl hl (by decide) rfl (fun ls hl => ?_)
        obtain ⟨v1, e_v1⟩ : ∃ z : Int32, z = k + (-1) := ⟨_, rfl⟩
        have hf := bnd_p e_v1 hf
        refine lv_iinc (v := v1) (lv' := [(2, .int v1), (1, .int a), (0, .ref (ad 0))]) S.1 S.2.1 dX5_due_32 hl (k := 2) rfl (by rw [e_v1]; rfl) (by decide) rfl (fun ls hl => ?_)
        refine lv_goto (tgt := 9) S.1 S.2.1 dX5_due_35 (by decide) ?_
        exact ih σ a v1 ((dn_in hd c_10).2 _ (by assumption)) hf H locs hG ls (lv_sub hl [2, 1, 0] rfl)
      · have hf := ite_p c_23 hf
        refine lv_iload_n S.1 S.2.1 dX5_due_26 rfl (lv_at hl 2 rfl) ?_
        refine lv_goto (tgt := 31) S.1 S.2.1 dX5_due_27 (by decide) ?_
        refine lv_istore_n (lv' := [(1, .int k), (0, .ref (ad 0)), (2, .int k)]) S.1 S.2.1 dX5_due_31 rfl hl (by decide) rfl (fun ls hl => ?_)
        obtain ⟨v2, e_v2⟩ : ∃ z : Int32, z = k + (-1) := ⟨_, rfl⟩
        have hf := bnd_p e_v2 hf
        refine lv_iinc (v := v2) (lv' := [(2, .int v2), (1, .int k), (0, .ref (ad 0))]) S.1 S.2.1 dX5_due_32 hl (k := 2) rfl (by rw [e_v2]; rfl) (by decide) rfl (fun ls hl => ?_)
        refine lv_goto (tgt := 9) S.1 S.2.1 dX5_due_35 (by decide) ?_
        exact ih σ k v2 ((dn_in hd c_10).2 _ (by assumption)) hf H locs hG ls (lv_sub hl [2, 1, 0] rfl)
def f_X5_due (σ : Mem) : Int32 :=
  bnd ((σ 0 14) - 1) fun v1 =>
  f_X5_due_9 61 σ (-1) v1
set_option maxRecDepth 100000 in
set_option maxHeartbeats 4000000 in
theorem b_X5_due_0 {p : Program} {l : Launch} {e : Env} {s : State} {m : MethodId} {args : Array Value} {below : List Frame} {meth : Method} {c : Code} {D : va_G} {cI : ClassId} {ad : Nat → Nat} {w0 : va_W} {X : Int32} (S : CallFix p m c cX5_due 3 s args wsX5_due RX5) (hr : meth.sig.returnType = (some .int)) (hlocks : meth.locks = false) (hK : va_K D vwCl [(cI, .int)] s) (hA : ∀ q, s.heap.size ≤ q → va_A w0 s.heap.size q) (σ : Mem) (hw : WV σ) (hf : f_X5_due σ = X) (H : Heap) (locs : List Loc) (hG : wI D vwCl (va_A w0 s.heap.size) s.heap H locs (RW ad cI σ)) (ls : Array Slot) (hl : lv_has ls 3 [(0, .ref (ad 0))]) : W p l e ({ frames := 0, cells := 0, slots := 0, locals := 0 } : Room) s m args below meth c H locs 0 0 (MQ below (va_Qi (fun (r : Int32) (_ : Unit) => r = X) (fun u t => wPost D vwCl w0 s.heap.size ((fun _ => RW ad cI σ) u) t) (va_A w0 s.heap.size)) args s 0 0 (va_A w0 s.heap.size)) (F0 m 0 ls []) := by
  have hin := in_X5_due
  unfold f_X5_due at hf
  refine lv_iconst (v := (-1)) S.1 S.2.1 dX5_due_0 (by decide) ?_
  refine lv_istore_n (lv' := [(1, .int ((-1))), (0, .ref (ad 0))]) S.1 S.2.1 dX5_due_1 rfl hl (by decide) rfl (fun ls hl => ?_)
  refine lv_aload_n S.1 S.2.1 dX5_due_2 rfl (lv_at hl 1 rfl) ?_
  refine M_get S hin hK hG 14 (by decide) (by decide +kernel) rfl dX5_due_3 ?_
  refine lv_iconst (v := 1) S.1 S.2.1 dX5_due_6 (by decide) ?_
  refine lv_isub S.1 S.2.1 dX5_due_7 ?_
  refine lv_topi (fun v1 e_v1 => ?_)
  have hf := bnd_p e_v1 hf
  refine lv_istore_n (lv' := [(2, .int v1), (1, .int ((-1))), (0, .ref (ad 0))]) S.1 S.2.1 dX5_due_8 rfl hl (by decide) rfl (fun ls hl => ?_)
  exact b_X5_due_9 S hr hlocks hK hA 61 σ (-1) v1 (by obtain ⟨⟨q, h1, h2⟩, -⟩ := hw; exact ⟨q, h1, by rw [e_v1, h2], by omega⟩) hf H locs hG ls (lv_sub hl [2, 1, 0] rfl)
theorem k_X5_due (l : Launch) (D : va_G) (cI : ClassId) (ad : Nat → Nat) (σ : Mem) (hw : WV σ) : CMi l yX5_due wsX5_due ({ frames := 0, cells := 0, slots := 0, locals := 0 } : Room) D vwCl [(cI, .int)] (RW ad cI σ) [.ref (ad 0)] (fun (r : Int32) (_ : Unit) => r = (f_X5_due σ)) (fun _ => RW ad cI σ) :=
  r_met (by decide) rfl (Nat.le_of_ble_eq_true rfl) (fun p e s m args below meth c ls S hr hlocks _ hK hA hG hl => b_X5_due_0 S hr hlocks hK hA σ hw rfl _ _ hG ls hl)
end
section
theorem zz_last : True := trivial
end
