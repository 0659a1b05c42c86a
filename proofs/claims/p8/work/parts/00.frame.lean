/-! MEMORIES: a system's state is a matrix of ints: row r, place k; row 0 its main object's fields, the other rows its arrays and parts -/
abbrev Mem : Type := Nat → Nat → Int32
def mset (σ : Mem) (r k : Nat) (x : Int32) : Mem := va_up σ r (upd (σ r) k x)
def mrow (σ : Mem) (r : Nat) (f : Nat → Int32) : Mem := va_up σ r f
theorem mset_rr (σ : Mem) (r k : Nat) (x : Int32) : mset σ r k x r = upd (σ r) k x := va_up_self _ _ _
theorem mset_ne (σ : Mem) {r q : Nat} (k : Nat) (x : Int32) (h : q ≠ r) : mset σ r k x q = σ q := va_up_ne _ _ h
theorem mset_s (σ : Mem) (r k : Nat) (x : Int32) : mset σ r k x r k = x := by rw [mset_rr]; exact pk_us
theorem mset_n (σ : Mem) (r : Nat) {k j : Nat} (x : Int32) (h : j ≠ k) : mset σ r k x r j = σ r j := by rw [mset_rr]; exact pk_un h
def bnd {α β : Type} (v : α) (F : α → β) : β := F v
def bnd2 {α β γ : Type} (v : α × β) (F : α → β → γ) : γ := F v.1 v.2
theorem bnd_p {α β : Type} {v x : α} {F : α → β} {X : β} (e : x = v) (h : bnd v F = X) : F x = X := by subst e; exact h
theorem bnd2_p {α β γ : Type} {v : α × β} {a : α} {b : β} {F : α → β → γ} {X : γ} (e : (a, b) = v) (h : bnd2 v F = X) : F a b = X := by subst e; exact h
theorem sw_ne {x k : Int32} {z : Int} (hz : k.toInt = z) (h : ¬ x = k) : ¬ x.toInt = z := fun e => h (Int32.toInt_inj.mp (e.trans hz.symm))
theorem vp_lit {x : Int32} {n : Nat} (h : 0 ≤ x.toInt ∧ x.toInt < n) : vp_in x n := vp_in_iff.mpr h
theorem ite_p {α : Type} {c : Prop} [h : Decidable c] {a b x : α} (hc : c) (e : (if c then a else b) = x) : a = x := by rw [if_pos hc] at e; exact e
theorem ite_n {α : Type} {c : Prop} [h : Decidable c] {a b x : α} (hc : ¬ c) (e : (if c then a else b) = x) : b = x := by rw [if_neg hc] at e; exact e
def bI (b : Bool) : Int32 := match b with
  | true => 1
  | false => 0
theorem bI_nar (b : Bool) : narrow .boolean (.int (bI b)) = .int (bI b) := by cases b <;> rfl
theorem bI_0 {b : Bool} : bI b = 0 ↔ b = false := by cases b <;> decide
theorem bI_f {b : Bool} (h : bI b = 0) : b = false := bI_0.mp h
theorem bI_t {b : Bool} (h : ¬ bI b = 0) : b = true := by cases b with
  | true => rfl
  | false => exact absurd rfl h
/-- the world: its cells, apart, and what has changed since the start lies in A -/
def wI (D : va_G) (cl : List vw_C) (A : Nat → Prop) (H0 H : Heap) (locs : List Loc) (w : va_W) : Prop := va_P D cl w H ∧ va_D A w ∧ va_S A H0 H locs
abbrev wPre (D : va_G) (cl : List vw_C) (tys : List (ClassId × FieldType)) (w : va_W) (sz : Nat) (U : State) : Prop := U.heap.size = sz ∧ va_P D cl w U.heap ∧ va_K D cl tys U ∧ va_D (fun _ => True) w
abbrev wPost (D : va_G) (cl : List vw_C) (w : va_W) (sz : Nat) (w' : va_W) (t : State) : Prop := va_P D cl w' t.heap ∧ va_D (va_A w sz) w'
/-- contracts over a world: an int (a boolean) answered, nothing answered, a cell or null answered -/
abbrev CMi {S : Type} (l : Launch) (y : MethodName) (ws : List Cond) (rm : Room) (D : va_G) (cl : List vw_C) (tys : List (ClassId × FieldType)) (w : va_W) (av : List Value) (F : Int32 → S → Prop) (w' : S → va_W) : Prop := ∀ sz : Nat, Met l y ws rm (va_Pc av (wPre D cl tys w sz)) (va_Qi F (fun u t => wPost D cl w sz (w' u) t) (va_A w sz)) rm.cells rm.slots (va_A w sz)
abbrev CMv {S : Type} (l : Launch) (y : MethodName) (ws : List Cond) (rm : Room) (D : va_G) (cl : List vw_C) (tys : List (ClassId × FieldType)) (w : va_W) (av : List Value) (F : S → Prop) (w' : S → va_W) : Prop := ∀ sz : Nat, Met l y ws rm (va_Pc av (wPre D cl tys w sz)) (va_Qv F (fun u t => wPost D cl w sz (w' u) t) (va_A w sz)) rm.cells rm.slots (va_A w sz)
abbrev CMq {S : Type} (l : Launch) (y : MethodName) (ws : List Cond) (rm : Room) (D : va_G) (cl : List vw_C) (tys : List (ClassId × FieldType)) (w : va_W) (av : List Value) (F : Option Nat → S → Prop) (w' : S → va_W) : Prop := ∀ sz : Nat, Met l y ws rm (va_Pc av (wPre D cl tys w sz)) (va_Qq F (fun u t => wPost D cl w sz (w' u) t) (va_A w sz)) rm.cells rm.slots (va_A w sz)
theorem wA_sub {D : va_G} {cl : List vw_C} {A : Nat → Prop} {H0 H : Heap} {locs : List Loc} {w : va_W} (hA : ∀ q, H0.size ≤ q → A q) (hG : wI D cl A H0 H locs w) : ∀ q, va_A w H.size q → A q := by
  intro q h
  rcases h with ⟨k, e, h⟩ | h
  · exact hG.2.1.2 k (q, e) h
  · exact hA q (Nat.le_trans hG.2.2.1 h)
/-- a world in two parts: the second stays while the first's method runs -/
theorem wI_app1 {D : va_G} {cl : List vw_C} {A : Nat → Prop} {H0 H : Heap} {locs : List Loc} {w v : va_W} (hG : wI D cl A H0 H locs (w ++ v)) : wI D cl A H0 H locs w := by
  refine ⟨fun k q hk => hG.1 k q ?_, ⟨fun i j x y hi hj h => hG.2.1.1 i j x y ?_ ?_ h, fun k q hk => hG.2.1.2 k q ?_⟩, hG.2.2⟩
  all_goals (rw [List.getElem?_append_left (List.getElem?_eq_some_iff.mp (by assumption)).1]; assumption)
theorem wI_app2 {D : va_G} {cl : List vw_C} {A : Nat → Prop} {H0 H : Heap} {locs : List Loc} {w v : va_W} (hG : wI D cl A H0 H locs (w ++ v)) : wI D cl A H0 H locs v := by
  have key : ∀ (k : Nat) (q : Nat × va_E), v[k]? = some q → (w ++ v)[w.length + k]? = some q := fun k q hk => by
    rw [List.getElem?_append_right (by omega), Nat.add_sub_cancel_left]; exact hk
  refine ⟨fun k q hk => hG.1 _ q (key k q hk), ⟨fun i j x y hi hj h => ?_, fun k q hk => hG.2.1.2 _ q (key k q hk)⟩, hG.2.2⟩
  have := hG.2.1.1 _ _ x y (key i x hi) (key j y hj) h
  omega
theorem wI_swap {D : va_G} {cl : List vw_C} {A : Nat → Prop} {H0 H : Heap} {locs : List Loc} {w v : va_W} (hG : wI D cl A H0 H locs (w ++ v)) : wI D cl A H0 H locs (v ++ w) := by
  have h1 := wI_app1 hG
  have h2 := wI_app2 hG
  refine ⟨h2.1.app h1.1, h2.2.1.app h1.2.1 (fun i j x y hi hj h => ?_), hG.2.2⟩
  have a := (List.getElem?_eq_some_iff.mp hj).1
  have := hG.2.1.1 (w.length + i) j x y (by rw [List.getElem?_append_right (by omega), Nat.add_sub_cancel_left]; exact hi) (by rw [List.getElem?_append_left a]; exact hj) h
  omega
theorem wI_join {D : va_G} {cl : List vw_C} {A : Nat → Prop} {H0 H H1 : Heap} {locs locs1 : List Loc} {w w1 v : va_W} (hA : ∀ q, H0.size ≤ q → A q) (hG : wI D cl A H0 H locs (w ++ v))
    (hk : ∀ q : Nat, q < H.size → ¬ va_A w H.size q → H1[q]? = H[q]?) (hP1 : va_P D cl w1 H1) (hD1 : va_D (va_A w H.size) w1) (hS : va_S A H0 H1 locs1) : wI D cl A H0 H1 locs1 (w1 ++ v) := by
  have h1 := wI_app1 hG
  have h2 := wI_app2 hG
  have hF := wA_sub hA h1
  have ap : ∀ (k : Nat) (q : Nat × va_E), v[k]? = some q → q.1 < H.size ∧ ¬ va_A w H.size q.1 := by
    intro k q hq
    have hl := (h2.1 k q hq).lt
    refine ⟨hl, fun h => ?_⟩
    rcases h with ⟨k2, e, h⟩ | h
    · have a := (List.getElem?_eq_some_iff.mp h).1
      have := hG.2.1.1 (w.length + k) k2 q (q.1, e) (by rw [List.getElem?_append_right (by omega), Nat.add_sub_cancel_left]; exact hq) (by rw [List.getElem?_append_left a]; exact h) rfl
      omega
    · omega
  refine ⟨hP1.app (fun k q hq => (h2.1 k q hq).kept (hk q.1 (ap k q hq).1 (ap k q hq).2)), (hD1.weaken (fun k q _ h => hF q.1 h)).app h2.2.1 (fun i j x y hi hj h => ?_), hS⟩
  exact (ap j y hj).2 (by rw [← h]; exact hD1.2 i x hi)
section RW1
variable {p : Program} {l : Launch} {e : Env} {R : Room} {s : State} {m : MethodId} {args : Array Value} {below : List Frame} {meth : Method} {c : Code} {H : Heap} {locs : List Loc} {cells slots : Nat} {Q : State → Prop} {cc : ByteArray} {nL : Nat} {Ts : List Cond} {own : String} {D : va_G} {cl : List vw_C} {tys : List (ClassId × FieldType)} {A : Nat → Prop} {w w' : va_W} {pc : Nat} {ls : Array Slot} {rest st0 : List Value} {a : Nat}
theorem r_get (S : CallFix p m c cc nL s args Ts own) (hK : va_K D cl tys s) (hG : wI D cl A s.heap H locs w) {C : String} {T : u_T} {N ci index : Nat} (hin : ∀ w ∈ u_ws C T N, w ∈ Ts) (q0 : Nat) {fs : List Value} (he : w[q0]? = some (a, .inr (ci, fs))) (hc : cl[ci]? = some (C, T, N)) (k : Nat) (hk : k < N) (hl : Cond.fieldLink own index (T k).1 (T k).2.1 (T k).2.2.1 ∈ Ts) {v : Value} (hv : fs[k]? = some v) (hdg : decode cc pc = .ok (.getfield index, 3))
    (kk : W p l e R s m args below meth c H locs cells slots Q (F0 m (pc + 3) ls (v :: rest))) : W p l e R s m args below meth c H locs cells slots Q (F0 m pc ls (.ref a :: rest)) :=
  va_get S.1 S.2.1 S.2.2.2.2 hin S.2.2.2.1 hK hG.1 q0 he hc k hk (S.2.2.2.2 _ hl) (fun _ h => h) hv hdg kk
theorem r_put (S : CallFix p m c cc nL s args Ts own) (hK : va_K D cl tys s) (hG : wI D cl A s.heap H locs w) {C : String} {T : u_T} {N ci index : Nat} (hin : ∀ w ∈ u_ws C T N, w ∈ Ts) (ty0 : Nat → FieldType) (hty : ∀ k, k < N → parseFieldDescriptor (T k).2.2.1 = some (ty0 k)) (hnm : ∀ a, a < N → ∀ b, b < N → a ≠ b → (T a).2.1 ≠ (T b).2.1) (q0 : Nat) {fs : List Value} (he : w[q0]? = some (a, .inr (ci, fs))) (hc : cl[ci]? = some (C, T, N)) (k : Nat) (hk : k < N) (hl : Cond.fieldLink own index (T k).1 (T k).2.1 (T k).2.2.1 ∈ Ts) (hfin : (T k).2.2.2 = false) {v : Value} (hn : narrow (ty0 k) v = v) (hfit : fits (ty0 k) v = true) (hlen : k < fs.length) (hw : w.set q0 (a, .inr (ci, fs.set k v)) = w') (hdg : decode cc pc = .ok (.putfield index, 3))
    (kk : ∀ (H1 : Heap) (locs1 : List Loc), wI D cl A s.heap H1 locs1 w' → W p l e R s m args below meth c H1 locs1 cells slots Q (F0 m (pc + 3) ls rest)) : W p l e R s m args below meth c H locs cells slots Q (F0 m pc ls (v :: .ref a :: rest)) :=
  va_put S.1 S.2.1 S.2.2.2.2 hin ty0 hty hnm S.2.2.2.1 hK hG.1 hG.2.1 hG.2.2 q0 he hc k hk (S.2.2.2.2 _ hl) (fun _ h => h) hfin (hty k hk) hn hfit hlen hdg (fun H1 locs1 h1 h2 h3 => kk H1 locs1 (by subst hw; exact ⟨h1, h2, h3⟩))
theorem r_iald (S : CallFix p m c cc nL s args Ts own) (hK : va_K D cl tys s) (hG : wI D cl A s.heap H locs w) (q0 t0 : Nat) {cA : ClassId} {n : Nat} {f : Nat → Int32} (he : w[q0]? = some (a, .inl (cA, n, .inl f))) (ht : tys[t0]? = some (cA, .int)) {i : Int32} (hin : vp_in i n) (hdg : decode cc pc = .ok (.iaload, 1))
    (kk : W p l e R s m args below meth c H locs cells slots Q (F0 m (pc + 1) ls (.int (f i.toNatClampNeg) :: rest))) : W p l e R s m args below meth c H locs cells slots Q (F0 m pc ls (.int i :: .ref a :: rest)) :=
  va_iald S.1 S.2.1 hK hG.1 q0 t0 he ht hin hdg kk
theorem r_iast (S : CallFix p m c cc nL s args Ts own) (hK : va_K D cl tys s) (hG : wI D cl A s.heap H locs w) (q0 t0 : Nat) {cA : ClassId} {n : Nat} {f : Nat → Int32} (he : w[q0]? = some (a, .inl (cA, n, .inl f))) (ht : tys[t0]? = some (cA, .int)) {i x : Int32} (hin : vp_in i n) (hw : w.set q0 (a, .inl (cA, n, .inl (upd f i.toNatClampNeg x))) = w') (hdg : decode cc pc = .ok (.iastore, 1))
    (kk : ∀ (H1 : Heap) (locs1 : List Loc), wI D cl A s.heap H1 locs1 w' → W p l e R s m args below meth c H1 locs1 cells slots Q (F0 m (pc + 1) ls rest)) : W p l e R s m args below meth c H locs cells slots Q (F0 m pc ls (.int x :: .int i :: .ref a :: rest)) :=
  va_iast S.1 S.2.1 hK hG.1 hG.2.1 hG.2.2 q0 t0 he ht hin hdg (fun H1 locs1 h1 h2 h3 => kk H1 locs1 (by subst hw; exact ⟨h1, h2, h3⟩))
theorem wBlind {av : List Value} {D : va_G} {cl : List vw_C} {tys : List (ClassId × FieldType)} {w : va_W} {sz : Nat} : FrameBlind (va_Pc av (wPre D cl tys w sz)) := fun a U g mk q => by
  obtain ⟨q0, q1, qP, qK, qD⟩ := q
  exact ⟨q0, q1, qP, va_K.moved (u := U) (U := U.calling g mk a) (Vm.Alike.refl U.vm) qK, qD⟩
theorem wGo {av : List Value} (hK : va_K D cl tys s) (hG : wI D cl A s.heap H locs w) : ∀ U : State, U.heap = H → s.WarmedH U.vm → va_Pc av (wPre D cl tys w H.size) av.toArray U := fun U hU hW =>
  ⟨rfl, by rw [hU], by rw [hU]; exact hG.1, va_K.moved hW.alike hK, hG.2.1.weaken (fun _ _ _ _ => trivial)⟩
theorem wBack {A0 A1 : Nat → Prop} {H0 H1 : Heap} {w1 : va_W} {locs1 : List Loc} (hP : va_P D cl w1 H1) (hD : va_D A1 w1) (hs : ∀ q, A1 q → A0 q) (hS : va_S A0 H0 H1 locs1) : wI D cl A0 H0 H1 locs1 w1 := ⟨hP, hD.weaken (fun _ q _ h => hs q.1 h), hS⟩
/-- calls: the callee's world is the caller's -/
theorem r_callVi {T : Type} {y : MethodName} {bytes : ByteArray} {maxL n index : Nat} {ret : Option FieldType} {ws : List Cond} {rm : Room} {C : String} {b : Addr} {As : List Value} {F : Int32 → T → Prop} {w1 : T → va_W} (S : CallFix p m c cc nL s args Ts own) (hK : va_K D cl tys s) (hA : ∀ q, s.heap.size ≤ q → A q) (hG : wI D cl A s.heap H locs w) (hM : CMi l y ws rm D cl tys w (.ref b :: As) F w1) (cw : CallW R s args own C index y bytes maxL ret ws rm rm.cells rm.slots n)
    (hrc : ∃ cell : Cell, H[b]? = some cell ∧ cell.vm.isStatics = false ∧ s.vm.findClass C = some cell.cls) (hn : As.length = n) (hsz : ls.size = nL) (hst : st0 = As.reverse ++ .ref b :: rest) (hW : (rest.map fun v => v.category).sum ≤ 8) (hdg : decode cc pc = .ok (.invokevirtual index, 3)) (hf : cells + rm.cells ≤ R.cells ∧ slots + rm.slots ≤ R.slots)
    (kk : ∀ (r : Int32) (u : T) (H1 : Heap) (locs1 : List Loc), F r u → wI D cl A s.heap H1 locs1 (w1 u) → W p l e R s m args below meth c H1 locs1 (cells + rm.cells) (slots + rm.slots) Q (F0 m (pc + 3) ls (.int r :: rest))) : W p l e R s m args below meth c H locs cells slots Q (F0 m pc ls st0) := by
  have hs := wA_sub hA hG
  refine va_calli (va_runV S (hM H.size) cw ⟨wBlind, hrc, wGo hK hG⟩ rfl hn hsz hst (lv_room hW) hdg hf) hG.2.2 (fun q _ h => hs q h) hs (fun r u t H1 locs1 ht _ hw hB _ _ hS => ?_)
  obtain ⟨hP1, hD1⟩ := hB
  rw [ht] at hP1
  exact kk r u H1 locs1 hw (wBack hP1 hD1 hs hS)
theorem r_callVv {T : Type} {y : MethodName} {bytes : ByteArray} {maxL n index : Nat} {ret : Option FieldType} {ws : List Cond} {rm : Room} {C : String} {b : Addr} {As : List Value} {F : T → Prop} {w1 : T → va_W} (S : CallFix p m c cc nL s args Ts own) (hK : va_K D cl tys s) (hA : ∀ q, s.heap.size ≤ q → A q) (hG : wI D cl A s.heap H locs w) (hM : CMv l y ws rm D cl tys w (.ref b :: As) F w1) (cw : CallW R s args own C index y bytes maxL ret ws rm rm.cells rm.slots n)
    (hrc : ∃ cell : Cell, H[b]? = some cell ∧ cell.vm.isStatics = false ∧ s.vm.findClass C = some cell.cls) (hn : As.length = n) (hsz : ls.size = nL) (hst : st0 = As.reverse ++ .ref b :: rest) (hW : (rest.map fun v => v.category).sum ≤ 8) (hdg : decode cc pc = .ok (.invokevirtual index, 3)) (hf : cells + rm.cells ≤ R.cells ∧ slots + rm.slots ≤ R.slots)
    (kk : ∀ (u : T) (H1 : Heap) (locs1 : List Loc), F u → wI D cl A s.heap H1 locs1 (w1 u) → W p l e R s m args below meth c H1 locs1 (cells + rm.cells) (slots + rm.slots) Q (F0 m (pc + 3) ls rest)) : W p l e R s m args below meth c H locs cells slots Q (F0 m pc ls st0) := by
  have hs := wA_sub hA hG
  refine va_callv (va_runV S (hM H.size) cw ⟨wBlind, hrc, wGo hK hG⟩ rfl hn hsz hst (lv_room hW) hdg hf) hG.2.2 (fun q _ h => hs q h) hs (fun u t H1 locs1 ht _ hw hB _ _ hS => ?_)
  obtain ⟨hP1, hD1⟩ := hB
  rw [ht] at hP1
  exact kk u H1 locs1 hw (wBack hP1 hD1 hs hS)
theorem r_callVq {T : Type} {y : MethodName} {bytes : ByteArray} {maxL n index : Nat} {ret : Option FieldType} {ws : List Cond} {rm : Room} {C : String} {b : Addr} {As : List Value} {F : Option Nat → T → Prop} {w1 : T → va_W} (S : CallFix p m c cc nL s args Ts own) (hK : va_K D cl tys s) (hA : ∀ q, s.heap.size ≤ q → A q) (hG : wI D cl A s.heap H locs w) (hM : CMq l y ws rm D cl tys w (.ref b :: As) F w1) (cw : CallW R s args own C index y bytes maxL ret ws rm rm.cells rm.slots n)
    (hrc : ∃ cell : Cell, H[b]? = some cell ∧ cell.vm.isStatics = false ∧ s.vm.findClass C = some cell.cls) (hn : As.length = n) (hsz : ls.size = nL) (hst : st0 = As.reverse ++ .ref b :: rest) (hW : (rest.map fun v => v.category).sum ≤ 8) (hdg : decode cc pc = .ok (.invokevirtual index, 3)) (hf : cells + rm.cells ≤ R.cells ∧ slots + rm.slots ≤ R.slots)
    (kk : ∀ (r : Option Nat) (u : T) (H1 : Heap) (locs1 : List Loc), F r u → wI D cl A s.heap H1 locs1 (w1 u) → W p l e R s m args below meth c H1 locs1 (cells + rm.cells) (slots + rm.slots) Q (F0 m (pc + 3) ls (va_rf r :: rest))) : W p l e R s m args below meth c H locs cells slots Q (F0 m pc ls st0) := by
  have hs := wA_sub hA hG
  refine va_callq (va_runV S (hM H.size) cw ⟨wBlind, hrc, wGo hK hG⟩ rfl hn hsz hst (lv_room hW) hdg hf) hG.2.2 (fun q _ h => hs q h) hs (fun r u t H1 locs1 ht _ hw hB _ _ hS => ?_)
  obtain ⟨hP1, hD1⟩ := hB
  rw [ht] at hP1
  exact kk r u H1 locs1 hw (wBack hP1 hD1 hs hS)
theorem r_callSi {T : Type} {y : MethodName} {bytes : ByteArray} {maxL n index : Nat} {ret : Option FieldType} {ws : List Cond} {rm : Room} {As : List Value} {F : Int32 → T → Prop} {w1 : T → va_W} (S : CallFix p m c cc nL s args Ts own) (hK : va_K D cl tys s) (hA : ∀ q, s.heap.size ≤ q → A q) (hG : wI D cl A s.heap H locs w) (hM : CMi l y ws rm D cl tys w As F w1) (cw : CallB R s args own index y bytes maxL ret ws rm rm.cells rm.slots n ∧ (Cond.static y).before args s = true)
    (hn : As.length = n) (hsz : ls.size = nL) (hst : st0 = As.reverse ++ rest) (hW : (rest.map fun v => v.category).sum ≤ 8) (hdg : decode cc pc = .ok (.invokestatic index, 3)) (hf : cells + rm.cells ≤ R.cells ∧ slots + rm.slots ≤ R.slots)
    (kk : ∀ (r : Int32) (u : T) (H1 : Heap) (locs1 : List Loc), F r u → wI D cl A s.heap H1 locs1 (w1 u) → W p l e R s m args below meth c H1 locs1 (cells + rm.cells) (slots + rm.slots) Q (F0 m (pc + 3) ls (.int r :: rest))) : W p l e R s m args below meth c H locs cells slots Q (F0 m pc ls st0) := by
  have hs := wA_sub hA hG
  refine va_calli (va_runS S (hM H.size) cw ⟨wBlind, wGo hK hG⟩ rfl hn hsz hst (lv_room hW) hdg hf) hG.2.2 (fun q _ h => hs q h) hs (fun r u t H1 locs1 ht _ hw hB _ _ hS => ?_)
  obtain ⟨hP1, hD1⟩ := hB
  rw [ht] at hP1
  exact kk r u H1 locs1 hw (wBack hP1 hD1 hs hS)
/-- ends -/
theorem r_iret {T : Type} {F : Int32 → T → Prop} {w0 : va_W} {w1 : T → va_W} {v : Int32} (S : CallFix p m c cc nL s args Ts own) {ty : FieldType} (hr : meth.sig.returnType = some ty) (hlocks : meth.locks = false) (hG : wI D cl (va_A w0 s.heap.size) s.heap H locs w) (u : T) (hw : w1 u = w) (hF : F v u) (hn : narrow ty (.int v) = .int v) (hdg : decode cc pc = .ok (.ireturn, 1)) : W p l e R s m args below meth c H locs cells slots (MQ below (va_Qi F (fun u t => wPost D cl w0 s.heap.size (w1 u) t) (va_A w0 s.heap.size)) args s cells slots (va_A w0 s.heap.size)) (F0 m pc ls [.int v]) :=
  W.zret S.1 S.2.1 hr hn (fun t ht hW => ⟨⟨v, u, rfl, hF, by rw [hw, ht]; exact hG.1, by rw [hw]; exact hG.2.1⟩, hG.2.2.F ht⟩) hG.2.2.2.2 hdg hlocks
theorem r_vret {T : Type} {F : T → Prop} {w0 : va_W} {w1 : T → va_W} (S : CallFix p m c cc nL s args Ts own) (hr : meth.sig.returnType = none) (hlocks : meth.locks = false) (hG : wI D cl (va_A w0 s.heap.size) s.heap H locs w) (u : T) (hw : w1 u = w) (hF : F u) (hdg : decode cc pc = .ok (.return_, 1)) : W p l e R s m args below meth c H locs cells slots (MQ below (va_Qv F (fun u t => wPost D cl w0 s.heap.size (w1 u) t) (va_A w0 s.heap.size)) args s cells slots (va_A w0 s.heap.size)) (F0 m pc ls []) :=
  W.vret S.1 S.2.1 hr (fun t ht hW => ⟨⟨u, rfl, hF, by rw [hw, ht]; exact hG.1, by rw [hw]; exact hG.2.1⟩, hG.2.2.F ht⟩) hG.2.2.2.2 hdg hlocks
end RW1
/-- a contract out of the walk from the entry -/
theorem r_met {l : Launch} {y : MethodName} {ws ws' : List Cond} {rm : Room} {cc : ByteArray} {maxL : Nat} {ret : Option FieldType} {D : va_G} {cl : List vw_C} {tys : List (ClassId × FieldType)} {w : va_W} {av : List Value} {mc ms : Nat} {Qc : Nat → Array Value → State → Outcome → State → Prop} (hy : plainName y.cls = true) (hw : ws = Cond.code y cc maxL ret :: ws') (hlen : (lg_sl av).length ≤ maxL)
    (body : ∀ (p : Program) (e : Env) (s : State) (m : MethodId) (args : Array Value) (below : List Frame) (meth : Method) (c : Code) (ls : Array Slot), CallFix p m c cc maxL s args ws y.cls → meth.sig.returnType = ret → meth.locks = false → meth.name = y.name → va_K D cl tys s → (∀ q, s.heap.size ≤ q → va_A w s.heap.size q) → wI D cl (va_A w s.heap.size) s.heap s.heap [] w → lv_has ls maxL (lv_args 0 av) → W p l e rm s m args below meth c s.heap [] 0 0 (MQ below (Qc s.heap.size) args s mc ms (va_A w s.heap.size)) (F0 m 0 ls [])) :
    ∀ sz : Nat, Met l y ws rm (va_Pc av (wPre D cl tys w sz)) (Qc sz) mc ms (va_A w sz) := by
  intro sz
  refine Met.ofW (cc := cc) (maxL := maxL) (ret := ret) hy hw ?_
  intro p e s m args below meth c s₁ B hml hv
  obtain ⟨rfl, hsz, hP, hK, hD0⟩ := hv
  subst hsz
  have hts := atoms_spec (ws := ws) B.pre
  have hown : s.vm.findClass y.cls = some m.cls := findClass_of_methodNamed B.named
  have hl := lv_entry av (n := maxL) hlen
  rw [lg_entry_eq]
  generalize (lg_sl av ++ List.replicate (maxL - (lg_sl av).length) Slot.unset).toArray = ls at hl ⊢
  exact body p e s m _ below meth c ls ⟨B.exec, B.bytes, hml, hown, hts⟩ B.returns B.notSynchronized (name_of_methodNamed B.named B.method).1 hK (fun q h => Or.inr h) ⟨hP, hD0.self, va_S.rf⟩ hl
