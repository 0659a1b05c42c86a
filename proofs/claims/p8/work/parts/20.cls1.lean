/-! THE CLASS: rows 0 the object, 1 sensors, 2 tanks, 3 tanksAhead, 4 rules, 5 acts, 6 waiting, 7 failures, 8 and 9 waiting's, 10 to 12 failures'; 100 + i tanksAhead[i], 200 + i RULE i, 300 + i ACT i -/
abbrev Gfs (ad : Nat → Nat) (σ : Mem) : List Value := [.ref (ad 1), .ref (ad 2), .ref (ad 3), .ref (ad 4), .ref (ad 5), .ref (ad 6), .ref (ad 7), .int (σ 0 7), .int (σ 0 8), .int (σ 0 9), .int (σ 0 10), .int (σ 0 11), .int (σ 0 12), .int (σ 0 13), .int (σ 0 14), .int (σ 0 15)]
abbrev Gru (σ : Mem) (i : Nat) : List Value := [.int (σ (200 + i) 0), .int (σ (200 + i) 1), .int (σ (200 + i) 2), .int (σ (200 + i) 3), .int (σ (200 + i) 4), .int (σ (200 + i) 5)]
abbrev Gac (σ : Mem) (i : Nat) : List Value := [.int (σ (300 + i) 0), .int (σ (300 + i) 1), .int (σ (300 + i) 2), .int (σ (300 + i) 3)]
abbrev gT (cs : Nat → ClassId) : List (ClassId × FieldType) := [(cs 0, .int), (cs 1, .object "GardenRules$Rule"), (cs 2, .object "GardenRules$Act"), (cs 3, .array .int)]
abbrev Gup (ad : Nat → Nat) (b n : Nat) : Nat → Option Nat := fun j => if j < n then some (ad (b + j)) else none
abbrev GWl (ad : Nat → Nat) (cs : Nat → ClassId) (n m : Nat) (σ : Mem) : va_W := [(ad 0, .inr (4, Gfs ad σ)), (ad 1, .inl (cs 0, 8, .inl (σ 1))), (ad 2, .inl (cs 0, 6, .inl (σ 2))), (ad 3, .inl (cs 3, 40, .inr (.inr (.inr (.inr (Gup ad 100 40)))))), (ad 4, .inl (cs 1, 40, .inr (.inr (.inr (.inr (Gup ad 200 n)))))), (ad 5, .inl (cs 2, 40, .inr (.inr (.inr (.inr (Gup ad 300 m)))))), (ad 6, .inr (3, [.ref (ad 8), .ref (ad 9), .int (σ 6 2)])), (ad 7, .inr (1, [.ref (ad 10), .ref (ad 11), .ref (ad 12), .int (σ 7 3)])), (ad 8, .inl (cs 0, 60, .inl (σ 8))), (ad 9, .inl (cs 0, 60, .inl (σ 9))), (ad 10, .inl (cs 0, 30, .inl (σ 10))), (ad 11, .inl (cs 0, 30, .inl (σ 11))), (ad 12, .inl (cs 0, 30, .inl (σ 12)))]
def GPa (ad : Nat → Nat) (cs : Nat → ClassId) (σ : Mem) : va_W := (List.range 40).map (fun i => (ad (100 + i), .inl (cs 0, 6, .inl (σ (100 + i)))))
def GPr (ad : Nat → Nat) (n : Nat) (σ : Mem) : va_W := (List.range n).map (fun i => (ad (200 + i), .inr (2, Gru σ i)))
def GPx (ad : Nat → Nat) (m : Nat) (σ : Mem) : va_W := (List.range m).map (fun i => (ad (300 + i), .inr (0, Gac σ i)))
def GP (ad : Nat → Nat) (cs : Nat → ClassId) (n m : Nat) (σ : Mem) : va_W := GPa ad cs σ ++ (GPr ad n σ ++ GPx ad m σ)
def GW (ad : Nat → Nat) (cs : Nat → ClassId) (n m : Nat) (σ : Mem) : va_W := GWl ad cs n m σ ++ GP ad cs n m σ
theorem mr_set {α : Type} {N : Nat} {f g : Nat → α} {i : Nat} {x : α} (hx : x = g i) (hg : ∀ j, j ≠ i → f j = g j) : ((List.range N).map f).set i x = (List.range N).map g := by
  subst hx
  apply List.ext_getElem?
  intro j
  by_cases hj : j = i
  · subst hj
    by_cases hl : j < N
    · rw [List.getElem?_set_self (by simpa using hl)]; simp [hl]
    · rw [List.getElem?_eq_none (by simpa using hl), List.getElem?_eq_none (by simpa using hl)]
  · rw [List.getElem?_set_ne (Ne.symm hj)]
    by_cases hl : j < N
    · simp [hl, hg j hj]
    · rw [List.getElem?_eq_none (by simpa using hl), List.getElem?_eq_none (by simpa using hl)]
theorem GPa_of {ad : Nat → Nat} {cs : Nat → ClassId} {σ τ : Mem} (h : ∀ i, i < 40 → τ (100 + i) = σ (100 + i)) : GPa ad cs τ = GPa ad cs σ := by
  unfold GPa
  exact List.map_congr_left (fun i hi => by rw [h i (List.mem_range.mp hi)])
theorem GPr_of {ad : Nat → Nat} {n : Nat} {σ τ : Mem} (h : ∀ i, i < n → τ (200 + i) = σ (200 + i)) : GPr ad n τ = GPr ad n σ := by
  unfold GPr Gru
  exact List.map_congr_left (fun i hi => by rw [h i (List.mem_range.mp hi)])
theorem GPx_of {ad : Nat → Nat} {n : Nat} {σ τ : Mem} (h : ∀ i, i < n → τ (300 + i) = σ (300 + i)) : GPx ad n τ = GPx ad n σ := by
  unfold GPx Gac
  exact List.map_congr_left (fun i hi => by rw [h i (List.mem_range.mp hi)])
theorem GP_lt {ad : Nat → Nat} {cs : Nat → ClassId} {n m r : Nat} {σ : Mem} {f : Nat → Int32} (h : r < 100) : GP ad cs n m (va_up σ r f) = GP ad cs n m σ := by
  unfold GP
  rw [GPa_of (fun i _ => va_up_ne _ _ (by omega)), GPr_of (fun i _ => va_up_ne _ _ (by omega)), GPx_of (fun i _ => va_up_ne _ _ (by omega))]
theorem GWs_1 (ad : Nat → Nat) (cs : Nat → ClassId) (n m : Nat) (σ : Mem) (f : Nat → Int32) : (GW ad cs n m σ).set 1 (ad 1, .inl (cs 0, 8, .inl f)) = GW ad cs n m (mrow σ 1 f) := by
  unfold GW mrow
  rw [GP_lt (by decide)]
  rfl
theorem GWs_2 (ad : Nat → Nat) (cs : Nat → ClassId) (n m : Nat) (σ : Mem) (f : Nat → Int32) : (GW ad cs n m σ).set 2 (ad 2, .inl (cs 0, 6, .inl f)) = GW ad cs n m (mrow σ 2 f) := by
  unfold GW mrow
  rw [GP_lt (by decide)]
  rfl
theorem GWs_8 (ad : Nat → Nat) (cs : Nat → ClassId) (n m : Nat) (σ : Mem) (f : Nat → Int32) : (GW ad cs n m σ).set 8 (ad 8, .inl (cs 0, 60, .inl f)) = GW ad cs n m (mrow σ 8 f) := by
  unfold GW mrow
  rw [GP_lt (by decide)]
  rfl
theorem GWs_9 (ad : Nat → Nat) (cs : Nat → ClassId) (n m : Nat) (σ : Mem) (f : Nat → Int32) : (GW ad cs n m σ).set 9 (ad 9, .inl (cs 0, 60, .inl f)) = GW ad cs n m (mrow σ 9 f) := by
  unfold GW mrow
  rw [GP_lt (by decide)]
  rfl
theorem GWs_10 (ad : Nat → Nat) (cs : Nat → ClassId) (n m : Nat) (σ : Mem) (f : Nat → Int32) : (GW ad cs n m σ).set 10 (ad 10, .inl (cs 0, 30, .inl f)) = GW ad cs n m (mrow σ 10 f) := by
  unfold GW mrow
  rw [GP_lt (by decide)]
  rfl
theorem GWs_11 (ad : Nat → Nat) (cs : Nat → ClassId) (n m : Nat) (σ : Mem) (f : Nat → Int32) : (GW ad cs n m σ).set 11 (ad 11, .inl (cs 0, 30, .inl f)) = GW ad cs n m (mrow σ 11 f) := by
  unfold GW mrow
  rw [GP_lt (by decide)]
  rfl
theorem GWs_12 (ad : Nat → Nat) (cs : Nat → ClassId) (n m : Nat) (σ : Mem) (f : Nat → Int32) : (GW ad cs n m σ).set 12 (ad 12, .inl (cs 0, 30, .inl f)) = GW ad cs n m (mrow σ 12 f) := by
  unfold GW mrow
  rw [GP_lt (by decide)]
  rfl
theorem GWp_0_7 (ad : Nat → Nat) (cs : Nat → ClassId) (n m : Nat) (σ : Mem) (x : Int32) : (GW ad cs n m σ).set 0 (ad 0, .inr (4, (Gfs ad σ).set 7 (.int x))) = GW ad cs n m (mset σ 0 7 x) := by
  unfold GW mset
  rw [GP_lt (by decide)]
  rfl
theorem GWp_0_8 (ad : Nat → Nat) (cs : Nat → ClassId) (n m : Nat) (σ : Mem) (x : Int32) : (GW ad cs n m σ).set 0 (ad 0, .inr (4, (Gfs ad σ).set 8 (.int x))) = GW ad cs n m (mset σ 0 8 x) := by
  unfold GW mset
  rw [GP_lt (by decide)]
  rfl
theorem GWp_0_9 (ad : Nat → Nat) (cs : Nat → ClassId) (n m : Nat) (σ : Mem) (x : Int32) : (GW ad cs n m σ).set 0 (ad 0, .inr (4, (Gfs ad σ).set 9 (.int x))) = GW ad cs n m (mset σ 0 9 x) := by
  unfold GW mset
  rw [GP_lt (by decide)]
  rfl
theorem GWp_0_10 (ad : Nat → Nat) (cs : Nat → ClassId) (n m : Nat) (σ : Mem) (x : Int32) : (GW ad cs n m σ).set 0 (ad 0, .inr (4, (Gfs ad σ).set 10 (.int x))) = GW ad cs n m (mset σ 0 10 x) := by
  unfold GW mset
  rw [GP_lt (by decide)]
  rfl
theorem GWp_0_11 (ad : Nat → Nat) (cs : Nat → ClassId) (n m : Nat) (σ : Mem) (x : Int32) : (GW ad cs n m σ).set 0 (ad 0, .inr (4, (Gfs ad σ).set 11 (.int x))) = GW ad cs n m (mset σ 0 11 x) := by
  unfold GW mset
  rw [GP_lt (by decide)]
  rfl
theorem GWp_0_12 (ad : Nat → Nat) (cs : Nat → ClassId) (n m : Nat) (σ : Mem) (x : Int32) : (GW ad cs n m σ).set 0 (ad 0, .inr (4, (Gfs ad σ).set 12 (.int x))) = GW ad cs n m (mset σ 0 12 x) := by
  unfold GW mset
  rw [GP_lt (by decide)]
  rfl
theorem GWp_0_13 (ad : Nat → Nat) (cs : Nat → ClassId) (n m : Nat) (σ : Mem) (x : Int32) : (GW ad cs n m σ).set 0 (ad 0, .inr (4, (Gfs ad σ).set 13 (.int x))) = GW ad cs n m (mset σ 0 13 x) := by
  unfold GW mset
  rw [GP_lt (by decide)]
  rfl
theorem GWp_0_14 (ad : Nat → Nat) (cs : Nat → ClassId) (n m : Nat) (σ : Mem) (x : Int32) : (GW ad cs n m σ).set 0 (ad 0, .inr (4, (Gfs ad σ).set 14 (.int x))) = GW ad cs n m (mset σ 0 14 x) := by
  unfold GW mset
  rw [GP_lt (by decide)]
  rfl
theorem GWp_0_15 (ad : Nat → Nat) (cs : Nat → ClassId) (n m : Nat) (σ : Mem) (x : Int32) : (GW ad cs n m σ).set 0 (ad 0, .inr (4, (Gfs ad σ).set 15 (.int x))) = GW ad cs n m (mset σ 0 15 x) := by
  unfold GW mset
  rw [GP_lt (by decide)]
  rfl
theorem GWp_6_2 (ad : Nat → Nat) (cs : Nat → ClassId) (n m : Nat) (σ : Mem) (x : Int32) : (GW ad cs n m σ).set 6 (ad 6, .inr (3, ([.ref (ad 8), .ref (ad 9), .int (σ 6 2)] : List Value).set 2 (.int x))) = GW ad cs n m (mset σ 6 2 x) := by
  unfold GW mset
  rw [GP_lt (by decide)]
  rfl
theorem GWp_7_3 (ad : Nat → Nat) (cs : Nat → ClassId) (n m : Nat) (σ : Mem) (x : Int32) : (GW ad cs n m σ).set 7 (ad 7, .inr (1, ([.ref (ad 10), .ref (ad 11), .ref (ad 12), .int (σ 7 3)] : List Value).set 3 (.int x))) = GW ad cs n m (mset σ 7 3 x) := by
  unfold GW mset
  rw [GP_lt (by decide)]
  rfl
theorem GW_ah (ad : Nat → Nat) (cs : Nat → ClassId) (n m : Nat) (σ : Mem) {i : Nat} (h : i < 40) : (GW ad cs n m σ)[13 + i]? = some (ad (100 + i), .inl (cs 0, 6, .inl (σ (100 + i)))) := by
  unfold GW GP GPa
  rw [List.getElem?_append_right (by show 13 ≤ 13 + i; omega), show 13 + i - (GWl ad cs n m σ).length = i from by show 13 + i - 13 = i; omega, List.getElem?_append_left (by simpa using h)]
  simp [h]
theorem GW_ru (ad : Nat → Nat) (cs : Nat → ClassId) (n m : Nat) (σ : Mem) {i : Nat} (h : i < n) : (GW ad cs n m σ)[53 + i]? = some (ad (200 + i), .inr (2, Gru σ i)) := by
  unfold GW GP GPr
  rw [List.getElem?_append_right (by show 13 ≤ 53 + i; omega), show 53 + i - (GWl ad cs n m σ).length = 40 + i from by show 53 + i - 13 = 40 + i; omega, List.getElem?_append_right (by unfold GPa; simp), show 40 + i - (GPa ad cs σ).length = i from by unfold GPa; simp, List.getElem?_append_left (by simpa using h)]
  simp [h]
theorem GW_ac (ad : Nat → Nat) (cs : Nat → ClassId) (n m : Nat) (σ : Mem) {i : Nat} (h : i < m) : (GW ad cs n m σ)[53 + n + i]? = some (ad (300 + i), .inr (0, Gac σ i)) := by
  unfold GW GP GPx
  rw [List.getElem?_append_right (by show 13 ≤ 53 + n + i; omega), show 53 + n + i - (GWl ad cs n m σ).length = 40 + (n + i) from by show 53 + n + i - 13 = 40 + (n + i); omega, List.getElem?_append_right (by unfold GPa; simp), show 40 + (n + i) - (GPa ad cs σ).length = n + i from by unfold GPa; simp, List.getElem?_append_right (by unfold GPr; simp), show n + i - (GPr ad n σ).length = i from by unfold GPr; simp]
  simp [h]
theorem GWl_hi {ad : Nat → Nat} {cs : Nat → ClassId} {n m r : Nat} {σ : Mem} {f : Nat → Int32} (h : 100 ≤ r) : GWl ad cs n m (va_up σ r f) = GWl ad cs n m σ := by
  unfold GWl Gfs
  rw [va_up_ne _ _ (show 0 ≠ r by omega), va_up_ne _ _ (show 1 ≠ r by omega), va_up_ne _ _ (show 2 ≠ r by omega), va_up_ne _ _ (show 6 ≠ r by omega), va_up_ne _ _ (show 7 ≠ r by omega), va_up_ne _ _ (show 8 ≠ r by omega), va_up_ne _ _ (show 9 ≠ r by omega), va_up_ne _ _ (show 10 ≠ r by omega), va_up_ne _ _ (show 11 ≠ r by omega), va_up_ne _ _ (show 12 ≠ r by omega)]
theorem GWs_ah (ad : Nat → Nat) (cs : Nat → ClassId) {n m : Nat} (σ : Mem) {i : Nat} (h : i < 40) (f : Nat → Int32) : (GW ad cs n m σ).set (13 + i) (ad (100 + i), .inl (cs 0, 6, .inl f)) = GW ad cs n m (mrow σ (100 + i) f) := by
  unfold GW GP mrow
  rw [GWl_hi (by omega), GPr_of (τ := va_up σ (100 + i) f) (fun j _ => va_up_ne _ _ (by omega)), GPx_of (τ := va_up σ (100 + i) f) (fun j _ => va_up_ne _ _ (by omega)), List.set_append_right _ _ (by show 13 ≤ 13 + i; omega), show 13 + i - (GWl ad cs n m σ).length = i from by show 13 + i - 13 = i; omega, List.set_append_left _ _ (by unfold GPa; simpa using h)]
  congr 2
  unfold GPa
  exact mr_set (by rw [va_up_self]) (fun j hj => by rw [va_up_ne _ _ (by omega)])
theorem GWs_ru (ad : Nat → Nat) (cs : Nat → ClassId) {n m : Nat} (σ : Mem) {i : Nat} (h : i < n) (hn : n ≤ 40) (x : Int32) : (GW ad cs n m σ).set (53 + i) (ad (200 + i), .inr (2, (Gru σ i).set 5 (.int x))) = GW ad cs n m (mset σ (200 + i) 5 x) := by
  unfold GW GP mset
  rw [GWl_hi (by omega), GPa_of (τ := va_up σ (200 + i) _) (fun j hj => va_up_ne _ _ (by omega)), GPx_of (τ := va_up σ (200 + i) _) (fun j _ => va_up_ne _ _ (by omega)), List.set_append_right _ _ (by show 13 ≤ 53 + i; omega), show 53 + i - (GWl ad cs n m σ).length = 40 + i from by show 53 + i - 13 = 40 + i; omega, List.set_append_right _ _ (by unfold GPa; simp), show 40 + i - (GPa ad cs σ).length = i from by unfold GPa; simp, List.set_append_left _ _ (by unfold GPr; simpa using h)]
  congr 3
  unfold GPr
  exact mr_set (by unfold Gru; rw [va_up_self]; rfl) (fun j hj => by unfold Gru; rw [va_up_ne _ _ (by omega)])
def optE {β : Type} (o : Option Nat) (a : β) (F : Nat → β) : β := match o with
  | none => a
  | some i => F i
theorem opt_n {β : Type} {o : Option Nat} {a : β} {F : Nat → β} {X : β} (h : o = none) (e : optE o a F = X) : a = X := by subst h; exact e
theorem opt_s {β : Type} {o : Option Nat} {a : β} {F : Nat → β} {X : β} {i : Nat} (h : o = some i) (e : optE o a F = X) : F i = X := by subst h; exact e
/-- the class's own bounds: how many RULES, ACTS, that WAIT, that FAILED; the latest refusal; what was told stays -/
def CInv (nr nx : Nat) (wy : Int32) (T σ : Mem) : Prop := (σ 0 7 = nI nr ∧ nr ≤ 40) ∧ (σ 0 8 = nI nx ∧ nx ≤ 40) ∧ (∃ k : Nat, k ≤ 60 ∧ σ 6 2 = nI k) ∧ (∃ k : Nat, k ≤ 30 ∧ σ 7 3 = nI k) ∧ σ 0 15 = wy ∧ (∀ i k : Nat, σ (300 + i) k = T (300 + i) k) ∧ ∀ i k : Nat, i < 40 → k < 5 → σ (200 + i) k = T (200 + i) k
theorem ci_up {nr nx r : Nat} {wy : Int32} {T σ : Mem} {f : Nat → Int32} (hr : (1 ≤ r ∧ r ≠ 6 ∧ r ≠ 7) ∧ r < 200) (h : CInv nr nx wy T σ) : CInv nr nx wy T (va_up σ r f) := by
  obtain ⟨h1, h2, h3, h4, h5, h6, h7⟩ := h
  unfold CInv
  rw [va_up_ne _ _ (show 0 ≠ r by omega), va_up_ne _ _ (show 6 ≠ r by omega), va_up_ne _ _ (show 7 ≠ r by omega)]
  exact ⟨h1, h2, h3, h4, h5, fun i k => by rw [va_up_ne _ _ (show 300 + i ≠ r by omega)]; exact h6 i k, fun i k hi hk => by rw [va_up_ne _ _ (show 200 + i ≠ r by omega)]; exact h7 i k hi hk⟩
theorem ci_low {nr nx r k : Nat} {wy wz x : Int32} {T σ τ : Mem} (hr : r < 200) (e : τ = mset σ r k x) (h : CInv nr nx wy T σ) (h1 : τ 0 7 = nI nr) (h2 : τ 0 8 = nI nx) (h3 : ∃ k : Nat, k ≤ 60 ∧ τ 6 2 = nI k) (h4 : ∃ k : Nat, k ≤ 30 ∧ τ 7 3 = nI k) (h5 : τ 0 15 = wz) : CInv nr nx wz T τ := by
  refine ⟨⟨h1, h.1.2⟩, ⟨h2, h.2.1.2⟩, h3, h4, h5, fun i j => ?_, fun i j hi hj => ?_⟩
  · rw [e, mset_ne σ k x (show 300 + i ≠ r by omega)]; exact h.2.2.2.2.2.1 i j
  · rw [e, mset_ne σ k x (show 200 + i ≠ r by omega)]; exact h.2.2.2.2.2.2 i j hi hj
theorem ci_p0 {nr nx k : Nat} {wy x : Int32} {T σ τ : Mem} (hk : 9 ≤ k ∧ k ≤ 14) (e : τ = mset σ 0 k x) (h : CInv nr nx wy T σ) : CInv nr nx wy T τ := by
  refine ci_low (by decide) e h ?_ ?_ ?_ ?_ ?_
  · rw [e, mset_n σ 0 x (show 7 ≠ k by omega)]; exact h.1.1
  · rw [e, mset_n σ 0 x (show 8 ≠ k by omega)]; exact h.2.1.1
  · rw [e, mset_ne σ k x (show 6 ≠ 0 by decide)]; exact h.2.2.1
  · rw [e, mset_ne σ k x (show 7 ≠ 0 by decide)]; exact h.2.2.2.1
  · rw [e, mset_n σ 0 x (show 15 ≠ k by omega)]; exact h.2.2.2.2.1
theorem ci_y {nr nx : Nat} {wy x : Int32} {T σ τ : Mem} (e : τ = mset σ 0 15 x) (h : CInv nr nx wy T σ) : CInv nr nx x T τ := by
  refine ci_low (by decide) e h ?_ ?_ ?_ ?_ ?_
  · rw [e, mset_n σ 0 x (show 7 ≠ 15 by decide)]; exact h.1.1
  · rw [e, mset_n σ 0 x (show 8 ≠ 15 by decide)]; exact h.2.1.1
  · rw [e, mset_ne σ 15 x (show 6 ≠ 0 by decide)]; exact h.2.2.1
  · rw [e, mset_ne σ 15 x (show 7 ≠ 0 by decide)]; exact h.2.2.2.1
  · rw [e, mset_s]
theorem ci_row {nr nx r k : Nat} {wy x : Int32} {T σ τ : Mem} (hr : (1 ≤ r ∧ r ≠ 6 ∧ r ≠ 7) ∧ r < 200) (e : τ = mset σ r k x) (h : CInv nr nx wy T σ) : CInv nr nx wy T τ := by
  subst e
  exact ci_up hr h
theorem ci_mrow {nr nx r : Nat} {wy : Int32} {f : Nat → Int32} {T σ τ : Mem} (hr : (1 ≤ r ∧ r ≠ 6 ∧ r ≠ 7) ∧ r < 200) (e : τ = mrow σ r f) (h : CInv nr nx wy T σ) : CInv nr nx wy T τ := by
  subst e
  exact ci_up hr h
theorem ci_ru {nr nx i : Nat} {wy x : Int32} {T σ τ : Mem} (hi : i < nr) (e : τ = mset σ (200 + i) 5 x) (h : CInv nr nx wy T σ) : CInv nr nx wy T τ := by
  have hn := h.1.2
  obtain ⟨h1, h2, h3, h4, h5, h6, h7⟩ := h
  subst e
  unfold CInv
  rw [mset_ne σ 5 x (show 0 ≠ 200 + i by omega), mset_ne σ 5 x (show 6 ≠ 200 + i by omega), mset_ne σ 5 x (show 7 ≠ 200 + i by omega)]
  refine ⟨h1, h2, h3, h4, h5, fun j k => ?_, fun j k hj hk => ?_⟩
  · rw [mset_ne σ 5 x (show 300 + j ≠ 200 + i by omega)]; exact h6 j k
  · by_cases q : j = i
    · subst q
      rw [mset_n σ _ x (show k ≠ 5 by omega)]; exact h7 j k hj hk
    · rw [mset_ne σ 5 x (show 200 + j ≠ 200 + i by omega)]; exact h7 j k hj hk
theorem ci_w {nr nx : Nat} {wy x : Int32} {T σ τ : Mem} (hx : ∃ k : Nat, k ≤ 60 ∧ x = nI k) (e : τ = mset σ 6 2 x) (h : CInv nr nx wy T σ) : CInv nr nx wy T τ := by
  refine ci_low (by decide) e h ?_ ?_ ?_ ?_ ?_
  · rw [e, mset_ne σ 2 x (show 0 ≠ 6 by decide)]; exact h.1.1
  · rw [e, mset_ne σ 2 x (show 0 ≠ 6 by decide)]; exact h.2.1.1
  · rw [e, mset_s]; exact hx
  · rw [e, mset_ne σ 2 x (show 7 ≠ 6 by decide)]; exact h.2.2.2.1
  · rw [e, mset_ne σ 2 x (show 0 ≠ 6 by decide)]; exact h.2.2.2.2.1
theorem ci_f {nr nx : Nat} {wy x : Int32} {T σ τ : Mem} (hx : ∃ k : Nat, k ≤ 30 ∧ x = nI k) (e : τ = mset σ 7 3 x) (h : CInv nr nx wy T σ) : CInv nr nx wy T τ := by
  refine ci_low (by decide) e h ?_ ?_ ?_ ?_ ?_
  · rw [e, mset_ne σ 3 x (show 0 ≠ 7 by decide)]; exact h.1.1
  · rw [e, mset_ne σ 3 x (show 0 ≠ 7 by decide)]; exact h.2.1.1
  · rw [e, mset_ne σ 3 x (show 6 ≠ 7 by decide)]; exact h.2.2.1
  · rw [e, mset_s]; exact hx
  · rw [e, mset_ne σ 3 x (show 0 ≠ 7 by decide)]; exact h.2.2.2.2.1
theorem ci_self {nr nx : Nat} {wy : Int32} {T σ : Mem} (h : CInv nr nx wy T σ) : CInv nr nx (σ 0 15) T σ := ⟨h.1, h.2.1, h.2.2.1, h.2.2.2.1, rfl, h.2.2.2.2.2⟩
/-- an ACT's field is as it was told -/
theorem ac_eq {nr nx : Nat} {wy wz : Int32} {T σ τ : Mem} (h : CInv nr nx wy T σ) (g : CInv nr nx wz T τ) (i k : Nat) : τ (300 + i) k = σ (300 + i) k := (g.2.2.2.2.2.1 i k).trans (h.2.2.2.2.2.1 i k).symm
/-- a place below a bound, by two compares -/
theorem vp_lh {x : Int32} {b : Int32} {n : Nat} (h0 : ¬ x < 0) (h1 : ¬ b ≤ x) (hb : b.toInt ≤ n) : vp_in x n := by
  rw [Int32.lt_iff_toInt_lt, Int32.toInt_zero] at h0
  rw [Int32.le_iff_toInt_le] at h1
  exact vp_in_iff.mpr ⟨by omega, by omega⟩
/-- a count below its bound grows by one -/
theorem up_lt {x b : Int32} {N : Nat} (h : ∃ k : Nat, k ≤ N ∧ x = nI k) (hb : b = nI N) (hN : N < 2 ^ 31) (hc : ¬ b ≤ x) : vp_in x N ∧ ∃ k : Nat, k ≤ N ∧ x + 1 = nI k := by
  obtain ⟨k, h1, rfl⟩ := h
  have h2 : k < N := by
    rcases Nat.lt_or_ge k N with q | q
    · exact q
    · exact absurd (by rw [hb]; exact nI_le q (by omega)) hc
  exact ⟨vp_in_nI h2 hN, k + 1, h2, nI_1 k⟩
section CW1
variable {p : Program} {l : Launch} {e : Env} {R : Room} {s : State} {m : MethodId} {args : Array Value} {below : List Frame} {meth : Method} {c : Code} {H : Heap} {locs : List Loc} {cells slots : Nat} {Q : State → Prop} {cc : ByteArray} {nL : Nat} {Ts : List Cond} {own : String} {D : va_G} {tys : List (ClassId × FieldType)} {A : Nat → Prop} {pc : Nat} {ls : Array Slot} {rest : List Value} {ad : Nat → Nat} {cs : Nat → ClassId} {nr nx : Nat} {σ σ1 : Mem} {a : Nat}
theorem C_put (S : CallFix p m c cc nL s args Ts own) (hK : va_K D vwCl tys s) (hG : wI D vwCl A s.heap H locs (GW ad cs nr nx σ)) {C : String} {T : u_T} {N ci index : Nat} (hin : ∀ w ∈ u_ws C T N, w ∈ Ts) (ty0 : Nat → FieldType) (hty : ∀ k, k < N → parseFieldDescriptor (T k).2.2.1 = some (ty0 k)) (hnm : ∀ a, a < N → ∀ b, b < N → a ≠ b → (T a).2.1 ≠ (T b).2.1) (q0 : Nat) {fs : List Value} (he : (GW ad cs nr nx σ)[q0]? = some (a, .inr (ci, fs))) (hc : vwCl[ci]? = some (C, T, N)) (k : Nat) (hk : k < N) (hl : Cond.fieldLink own index (T k).1 (T k).2.1 (T k).2.2.1 ∈ Ts) (hfin : (T k).2.2.2 = false) {v : Value} (hn : narrow (ty0 k) v = v) (hfit : fits (ty0 k) v = true) (hlen : k < fs.length) (hw : (GW ad cs nr nx σ).set q0 (a, .inr (ci, fs.set k v)) = GW ad cs nr nx σ1) (hdg : decode cc pc = .ok (.putfield index, 3))
    (kk : ∀ (τ : Mem) (H1 : Heap) (locs1 : List Loc), τ = σ1 → wI D vwCl A s.heap H1 locs1 (GW ad cs nr nx τ) → W p l e R s m args below meth c H1 locs1 cells slots Q (F0 m (pc + 3) ls rest)) : W p l e R s m args below meth c H locs cells slots Q (F0 m pc ls (v :: .ref a :: rest)) :=
  r_put S hK hG hin ty0 hty hnm q0 he hc k hk hl hfin hn hfit hlen hw hdg (fun H1 locs1 h => kk _ H1 locs1 rfl h)
theorem C_ast (S : CallFix p m c cc nL s args Ts own) (hK : va_K D vwCl (gT cs) s) (hG : wI D vwCl A s.heap H locs (GW ad cs nr nx σ)) (r n : Nat) (he : (GW ad cs nr nx σ)[r]? = some (ad r, .inl (cs 0, n, .inl (σ r)))) {i x : Int32} (hin : vp_in i n) (hw : (GW ad cs nr nx σ).set r (ad r, .inl (cs 0, n, .inl (upd (σ r) i.toNatClampNeg x))) = GW ad cs nr nx (mset σ r i.toNatClampNeg x)) (hdg : decode cc pc = .ok (.iastore, 1))
    (kk : ∀ (τ : Mem) (H1 : Heap) (locs1 : List Loc), τ = mset σ r i.toNatClampNeg x → wI D vwCl A s.heap H1 locs1 (GW ad cs nr nx τ) → W p l e R s m args below meth c H1 locs1 cells slots Q (F0 m (pc + 1) ls rest)) : W p l e R s m args below meth c H locs cells slots Q (F0 m pc ls (.int x :: .int i :: .ref (ad r) :: rest)) :=
  r_iast S hK hG r 0 he rfl hin hw hdg (fun H1 locs1 h => kk _ H1 locs1 rfl h)
theorem C_aru (S : CallFix p m c cc nL s args Ts own) (hK : va_K D vwCl (gT cs) s) (hG : wI D vwCl A s.heap H locs (GW ad cs nr nx σ)) {i : Int32} (hin : vp_in i 40) (hlt : i.toNatClampNeg < nr) (hdg : decode cc pc = .ok (.aaload, 1))
    (kk : W p l e R s m args below meth c H locs cells slots Q (F0 m (pc + 1) ls (.ref (ad (200 + i.toNatClampNeg)) :: rest))) : W p l e R s m args below meth c H locs cells slots Q (F0 m pc ls (.int i :: .ref (ad 4) :: rest)) := by
  refine va_aldq S.1 S.2.1 hK hG.1 4 1 rfl rfl hin hdg ?_
  rw [show Gup ad 200 nr i.toNatClampNeg = some (ad (200 + i.toNatClampNeg)) from if_pos hlt]
  exact kk
theorem C_aac (S : CallFix p m c cc nL s args Ts own) (hK : va_K D vwCl (gT cs) s) (hG : wI D vwCl A s.heap H locs (GW ad cs nr nx σ)) {i : Int32} (hin : vp_in i 40) (hlt : i.toNatClampNeg < nx) (hdg : decode cc pc = .ok (.aaload, 1))
    (kk : W p l e R s m args below meth c H locs cells slots Q (F0 m (pc + 1) ls (.ref (ad (300 + i.toNatClampNeg)) :: rest))) : W p l e R s m args below meth c H locs cells slots Q (F0 m pc ls (.int i :: .ref (ad 5) :: rest)) := by
  refine va_aldq S.1 S.2.1 hK hG.1 5 2 rfl rfl hin hdg ?_
  rw [show Gup ad 300 nx i.toNatClampNeg = some (ad (300 + i.toNatClampNeg)) from if_pos hlt]
  exact kk
theorem C_opt {o : Option Nat} {g : Nat → Nat} (hn : o = none → W p l e R s m args below meth c H locs cells slots Q (F0 m pc ls (.null :: rest))) (hs : ∀ i, o = some i → W p l e R s m args below meth c H locs cells slots Q (F0 m pc ls (.ref (g i) :: rest))) : W p l e R s m args below meth c H locs cells slots Q (F0 m pc ls (va_rf (o.map g) :: rest)) := by
  cases o with
  | none => exact hn rfl
  | some i => exact hs i rfl
theorem r_qret {T : Type} {cl : List vw_C} {F : Option Nat → T → Prop} {w w0 : va_W} {w1 : T → va_W} {v : Value} (S : CallFix p m c cc nL s args Ts own) {ty : String} (hr : meth.sig.returnType = some (.object ty)) (hlocks : meth.locks = false) (hG : wI D cl (va_A w0 s.heap.size) s.heap H locs w) (u : T) (hw : w1 u = w) (r : Option Nat) (hv : v = va_rf r) (hF : F r u) (hdg : decode cc pc = .ok (.areturn, 1)) : W p l e R s m args below meth c H locs cells slots (MQ below (va_Qq F (fun u t => wPost D cl w0 s.heap.size (w1 u) t) (va_A w0 s.heap.size)) args s cells slots (va_A w0 s.heap.size)) (F0 m pc ls [v]) := by
  subst hv
  exact W.aret S.1 S.2.1 hr (Or.inl ⟨_, rfl⟩) (va_rf_or r) (fun t ht hW => ⟨⟨r, u, rfl, hF, by rw [hw, ht]; exact hG.1, by rw [hw]; exact hG.2.1⟩, hG.2.2.F ht⟩) hG.2.2.2.2 hdg hlocks
end CW1
theorem lt_nI {x c : Int32} {n : Nat} (hc : c = nI n) (hn : n < 2 ^ 31) (h0 : ¬ x < 0) (h1 : ¬ c ≤ x) : x.toNatClampNeg < n := by
  obtain ⟨j, hj, rfl⟩ := nI_of h0
  rw [nI_clamp hj]
  rcases Nat.lt_or_ge j n with q | q
  · exact q
  · exact absurd (by rw [hc]; exact nI_le q hj) h1
def f_X4_isWithin (v : Int32) (lo : Int32) (hi : Int32) : Bool :=
  (if v < lo then
  false
  else
  (if hi < v then
  false
  else
  true))
set_option maxRecDepth 100000 in
set_option maxHeartbeats 4000000 in
theorem b_X4_isWithin_0 {p : Program} {l : Launch} {e : Env} {s : State} {m : MethodId} {args : Array Value} {below : List Frame} {meth : Method} {c : Code} {D : va_G} {cl : List vw_C} {tys : List (ClassId × FieldType)} {w w0 : va_W} {X : Bool} (S : CallFix p m c cX4_isWithin 3 s args wsX4_isWithin RX4) (hr : meth.sig.returnType = (some .boolean)) (hlocks : meth.locks = false) (hK : va_K D cl tys s) (hA : ∀ q, s.heap.size ≤ q → va_A w0 s.heap.size q) (v : Int32) (lo : Int32) (hi : Int32) (hf : f_X4_isWithin v lo hi = X) (H : Heap) (locs : List Loc) (hG : wI D cl (va_A w0 s.heap.size) s.heap H locs w) (ls : Array Slot) (hl : lv_has ls 3 [(0, .int v), (1, .int lo), (2, .int hi)]) : W p l e ({ frames := 0, cells := 0, slots := 0, locals := 0 } : Room) s m args below meth c H locs 0 0 (MQ below (va_Qi (fun (r : Int32) (_ : Unit) => r = bI X) (fun u t => wPost D cl w0 s.heap.size ((fun _ => w) u) t) (va_A w0 s.heap.size)) args s 0 0 (va_A w0 s.heap.size)) (F0 m 0 ls []) := by
  unfold f_X4_isWithin at hf
  refine lv_iload_n S.1 S.2.1 dX4_isWithin_0 rfl (lv_at hl 0 rfl) ?_
  refine lv_iload_n S.1 S.2.1 dX4_isWithin_1 rfl (lv_at hl 1 rfl) ?_
  refine lv_icmp_lt (tgt := 14) S.1 S.2.1 dX4_isWithin_2 (by decide) (fun c_2 => ?_) (fun c_2 => ?_)
  · have hf := ite_p c_2 hf
    refine lv_iconst (v := 0) S.1 S.2.1 dX4_isWithin_14 (by decide) ?_
    exact r_iret S hr hlocks hG () rfl (congrArg bI hf) (bI_nar false) dX4_isWithin_15
  · have hf := ite_n c_2 hf
    refine lv_iload_n S.1 S.2.1 dX4_isWithin_5 rfl (lv_at hl 0 rfl) ?_
    refine lv_iload_n S.1 S.2.1 dX4_isWithin_6 rfl (lv_at hl 2 rfl) ?_
    refine lv_icmp_gt (tgt := 14) S.1 S.2.1 dX4_isWithin_7 (by decide) (fun c_7 => ?_) (fun c_7 => ?_)
    · have hf := ite_p c_7 hf
      refine lv_iconst (v := 0) S.1 S.2.1 dX4_isWithin_14 (by decide) ?_
      exact r_iret S hr hlocks hG () rfl (congrArg bI hf) (bI_nar false) dX4_isWithin_15
    · have hf := ite_n c_7 hf
      refine lv_iconst (v := 1) S.1 S.2.1 dX4_isWithin_10 (by decide) ?_
      refine lv_goto (tgt := 15) S.1 S.2.1 dX4_isWithin_11 (by decide) ?_
      exact r_iret S hr hlocks hG () rfl (congrArg bI hf) (bI_nar true) dX4_isWithin_15
theorem k_X4_isWithin (l : Launch) (D : va_G) (cl : List vw_C) (tys : List (ClassId × FieldType)) (w : va_W) (v : Int32) (lo : Int32) (hi : Int32) : CMi l yX4_isWithin wsX4_isWithin ({ frames := 0, cells := 0, slots := 0, locals := 0 } : Room) D cl tys w [.int v, .int lo, .int hi] (fun (r : Int32) (_ : Unit) => r = bI (f_X4_isWithin v lo hi)) (fun _ => w) :=
  r_met (by decide) rfl (Nat.le_of_ble_eq_true rfl) (fun p e s m args below meth c ls S hr hlocks _ hK hA hG hl => b_X4_isWithin_0 S hr hlocks hK hA v lo hi rfl _ _ hG ls hl)
def f_X4_isSensor (x1 : Int32) : Bool :=
  (if x1 < 0 then
  false
  else
  (if 8 ≤ x1 then
  false
  else
  true))
set_option maxRecDepth 100000 in
set_option maxHeartbeats 4000000 in
theorem b_X4_isSensor_0 {p : Program} {l : Launch} {e : Env} {s : State} {m : MethodId} {args : Array Value} {below : List Frame} {meth : Method} {c : Code} {D : va_G} {cl : List vw_C} {tys : List (ClassId × FieldType)} {w w0 : va_W} {X : Bool} (S : CallFix p m c cX4_isSensor 1 s args wsX4_isSensor RX4) (hr : meth.sig.returnType = (some .boolean)) (hlocks : meth.locks = false) (hK : va_K D cl tys s) (hA : ∀ q, s.heap.size ≤ q → va_A w0 s.heap.size q) (x1 : Int32) (hf : f_X4_isSensor x1 = X) (H : Heap) (locs : List Loc) (hG : wI D cl (va_A w0 s.heap.size) s.heap H locs w) (ls : Array Slot) (hl : lv_has ls 1 [(0, .int x1)]) : W p l e ({ frames := 0, cells := 0, slots := 0, locals := 0 } : Room) s m args below meth c H locs 0 0 (MQ below (va_Qi (fun (r : Int32) (_ : Unit) => r = bI X) (fun u t => wPost D cl w0 s.heap.size ((fun _ => w) u) t) (va_A w0 s.heap.size)) args s 0 0 (va_A w0 s.heap.size)) (F0 m 0 ls []) := by
  unfold f_X4_isSensor at hf
  refine lv_iload_n S.1 S.2.1 dX4_isSensor_0 rfl (lv_at hl 0 rfl) ?_
  refine lv_if_lt (tgt := 14) S.1 S.2.1 dX4_isSensor_1 (by decide) (fun c_1 => ?_) (fun c_1 => ?_)
  · have hf := ite_p c_1 hf
    refine lv_iconst (v := 0) S.1 S.2.1 dX4_isSensor_14 (by decide) ?_
    exact r_iret S hr hlocks hG () rfl (congrArg bI hf) (bI_nar false) dX4_isSensor_15
  · have hf := ite_n c_1 hf
    refine lv_iload_n S.1 S.2.1 dX4_isSensor_4 rfl (lv_at hl 0 rfl) ?_
    refine lv_bipush (v := 8) S.1 S.2.1 dX4_isSensor_5 (by decide) ?_
    refine lv_icmp_ge (tgt := 14) S.1 S.2.1 dX4_isSensor_7 (by decide) (fun c_7 => ?_) (fun c_7 => ?_)
    · have hf := ite_p c_7 hf
      refine lv_iconst (v := 0) S.1 S.2.1 dX4_isSensor_14 (by decide) ?_
      exact r_iret S hr hlocks hG () rfl (congrArg bI hf) (bI_nar false) dX4_isSensor_15
    · have hf := ite_n c_7 hf
      refine lv_iconst (v := 1) S.1 S.2.1 dX4_isSensor_10 (by decide) ?_
      refine lv_goto (tgt := 15) S.1 S.2.1 dX4_isSensor_11 (by decide) ?_
      exact r_iret S hr hlocks hG () rfl (congrArg bI hf) (bI_nar true) dX4_isSensor_15
theorem k_X4_isSensor (l : Launch) (D : va_G) (cl : List vw_C) (tys : List (ClassId × FieldType)) (w : va_W) (x1 : Int32) : CMi l yX4_isSensor wsX4_isSensor ({ frames := 0, cells := 0, slots := 0, locals := 0 } : Room) D cl tys w [.int x1] (fun (r : Int32) (_ : Unit) => r = bI (f_X4_isSensor x1)) (fun _ => w) :=
  r_met (by decide) rfl (Nat.le_of_ble_eq_true rfl) (fun p e s m args below meth c ls S hr hlocks _ hK hA hG hl => b_X4_isSensor_0 S hr hlocks hK hA x1 rfl _ _ hG ls hl)
def f_X4_isTank (x1 : Int32) : Bool :=
  (if x1 < 0 then
  false
  else
  (if 6 ≤ x1 then
  false
  else
  true))
set_option maxRecDepth 100000 in
set_option maxHeartbeats 4000000 in
theorem b_X4_isTank_0 {p : Program} {l : Launch} {e : Env} {s : State} {m : MethodId} {args : Array Value} {below : List Frame} {meth : Method} {c : Code} {D : va_G} {cl : List vw_C} {tys : List (ClassId × FieldType)} {w w0 : va_W} {X : Bool} (S : CallFix p m c cX4_isTank 1 s args wsX4_isTank RX4) (hr : meth.sig.returnType = (some .boolean)) (hlocks : meth.locks = false) (hK : va_K D cl tys s) (hA : ∀ q, s.heap.size ≤ q → va_A w0 s.heap.size q) (x1 : Int32) (hf : f_X4_isTank x1 = X) (H : Heap) (locs : List Loc) (hG : wI D cl (va_A w0 s.heap.size) s.heap H locs w) (ls : Array Slot) (hl : lv_has ls 1 [(0, .int x1)]) : W p l e ({ frames := 0, cells := 0, slots := 0, locals := 0 } : Room) s m args below meth c H locs 0 0 (MQ below (va_Qi (fun (r : Int32) (_ : Unit) => r = bI X) (fun u t => wPost D cl w0 s.heap.size ((fun _ => w) u) t) (va_A w0 s.heap.size)) args s 0 0 (va_A w0 s.heap.size)) (F0 m 0 ls []) := by
  unfold f_X4_isTank at hf
  refine lv_iload_n S.1 S.2.1 dX4_isTank_0 rfl (lv_at hl 0 rfl) ?_
  refine lv_if_lt (tgt := 14) S.1 S.2.1 dX4_isTank_1 (by decide) (fun c_1 => ?_) (fun c_1 => ?_)
  · have hf := ite_p c_1 hf
    refine lv_iconst (v := 0) S.1 S.2.1 dX4_isTank_14 (by decide) ?_
    exact r_iret S hr hlocks hG () rfl (congrArg bI hf) (bI_nar false) dX4_isTank_15
  · have hf := ite_n c_1 hf
    refine lv_iload_n S.1 S.2.1 dX4_isTank_4 rfl (lv_at hl 0 rfl) ?_
    refine lv_bipush (v := 6) S.1 S.2.1 dX4_isTank_5 (by decide) ?_
    refine lv_icmp_ge (tgt := 14) S.1 S.2.1 dX4_isTank_7 (by decide) (fun c_7 => ?_) (fun c_7 => ?_)
    · have hf := ite_p c_7 hf
      refine lv_iconst (v := 0) S.1 S.2.1 dX4_isTank_14 (by decide) ?_
      exact r_iret S hr hlocks hG () rfl (congrArg bI hf) (bI_nar false) dX4_isTank_15
    · have hf := ite_n c_7 hf
      refine lv_iconst (v := 1) S.1 S.2.1 dX4_isTank_10 (by decide) ?_
      refine lv_goto (tgt := 15) S.1 S.2.1 dX4_isTank_11 (by decide) ?_
      exact r_iret S hr hlocks hG () rfl (congrArg bI hf) (bI_nar true) dX4_isTank_15
theorem k_X4_isTank (l : Launch) (D : va_G) (cl : List vw_C) (tys : List (ClassId × FieldType)) (w : va_W) (x1 : Int32) : CMi l yX4_isTank wsX4_isTank ({ frames := 0, cells := 0, slots := 0, locals := 0 } : Room) D cl tys w [.int x1] (fun (r : Int32) (_ : Unit) => r = bI (f_X4_isTank x1)) (fun _ => w) :=
  r_met (by decide) rfl (Nat.le_of_ble_eq_true rfl) (fun p e s m args below meth c ls S hr hlocks _ hK hA hG hl => b_X4_isTank_0 S hr hlocks hK hA x1 rfl _ _ hG ls hl)
theorem in_X4_reading_X4 : ∀ w ∈ wsX40, w ∈ wsX4_reading := by decide +kernel
def f_X4_reading (σ : Mem) (x1 : Int32) : Int32 :=
  (if x1 < 0 then
  0
  else
  (if 8 ≤ x1 then
  0
  else
  σ 1 x1.toNatClampNeg))
set_option maxRecDepth 100000 in
set_option maxHeartbeats 4000000 in
theorem b_X4_reading_0 {p : Program} {l : Launch} {e : Env} {s : State} {m : MethodId} {args : Array Value} {below : List Frame} {meth : Method} {c : Code} {D : va_G} {cs : Nat → ClassId} {ad : Nat → Nat} {nr nx : Nat} {wy : Int32} {T : Mem} {w0 : va_W} {X : Int32} (S : CallFix p m c cX4_reading 2 s args wsX4_reading RX4) (hr : meth.sig.returnType = (some .int)) (hlocks : meth.locks = false) (hK : va_K D vwCl (gT cs) s) (hA : ∀ q, s.heap.size ≤ q → va_A w0 s.heap.size q) (σ : Mem) (x1 : Int32) (hc : CInv nr nx wy T σ) (hf : f_X4_reading σ x1 = X) (H : Heap) (locs : List Loc) (hG : wI D vwCl (va_A w0 s.heap.size) s.heap H locs (GW ad cs nr nx σ)) (ls : Array Slot) (hl : lv_has ls 2 [(0, .ref (ad 0)), (1, .int x1)]) : W p l e ({ frames := 0, cells := 0, slots := 0, locals := 0 } : Room) s m args below meth c H locs 0 0 (MQ below (va_Qi (fun (r : Int32) (_ : Unit) => r = X) (fun u t => wPost D vwCl w0 s.heap.size ((fun _ => GW ad cs nr nx σ) u) t) (va_A w0 s.heap.size)) args s 0 0 (va_A w0 s.heap.size)) (F0 m 0 ls []) := by
  have hinX4 := in_X4_reading_X4
  unfold f_X4_reading at hf
  refine lv_iload_n S.1 S.2.1 dX4_reading_0 rfl (lv_at hl 1 rfl) ?_
  refine lv_if_lt (tgt := 19) S.1 S.2.1 dX4_reading_1 (by decide) (fun c_1 => ?_) (fun c_1 => ?_)
  · have hf := ite_p c_1 hf
    refine lv_iconst (v := 0) S.1 S.2.1 dX4_reading_19 (by decide) ?_
    exact r_iret S hr hlocks hG () rfl hf rfl dX4_reading_20
  · have hf := ite_n c_1 hf
    refine lv_iload_n S.1 S.2.1 dX4_reading_4 rfl (lv_at hl 1 rfl) ?_
    refine lv_bipush (v := 8) S.1 S.2.1 dX4_reading_5 (by decide) ?_
    refine lv_icmp_ge (tgt := 19) S.1 S.2.1 dX4_reading_7 (by decide) (fun c_7 => ?_) (fun c_7 => ?_)
    · have hf := ite_p c_7 hf
      refine lv_iconst (v := 0) S.1 S.2.1 dX4_reading_19 (by decide) ?_
      exact r_iret S hr hlocks hG () rfl hf rfl dX4_reading_20
    · have hf := ite_n c_7 hf
      refine lv_aload_n S.1 S.2.1 dX4_reading_10 rfl (lv_at hl 0 rfl) ?_
      refine r_get S hK hG hinX4 0 rfl rfl 0 (by decide) (by decide +kernel) rfl dX4_reading_11 ?_
      refine lv_iload_n S.1 S.2.1 dX4_reading_14 rfl (lv_at hl 1 rfl) ?_
      refine r_iald S hK hG 1 0 rfl rfl (vp_lh c_1 c_7 (by decide)) dX4_reading_15 ?_
      refine lv_goto (tgt := 20) S.1 S.2.1 dX4_reading_16 (by decide) ?_
      exact r_iret S hr hlocks hG () rfl hf rfl dX4_reading_20
theorem k_X4_reading (l : Launch) (D : va_G) (cs : Nat → ClassId) (ad : Nat → Nat) (nr nx : Nat) (σ : Mem) (x1 : Int32) {wy : Int32} {T : Mem} (hc : CInv nr nx wy T σ) : CMi l yX4_reading wsX4_reading ({ frames := 0, cells := 0, slots := 0, locals := 0 } : Room) D vwCl (gT cs) (GW ad cs nr nx σ) [.ref (ad 0), .int x1] (fun (r : Int32) (_ : Unit) => r = (f_X4_reading σ x1)) (fun _ => GW ad cs nr nx σ) :=
  r_met (by decide) rfl (Nat.le_of_ble_eq_true rfl) (fun p e s m args below meth c ls S hr hlocks _ hK hA hG hl => b_X4_reading_0 S hr hlocks hK hA σ x1 hc rfl _ _ hG ls hl)
theorem in_X4_ruleAt_X4 : ∀ w ∈ wsX40, w ∈ wsX4_ruleAt := by decide +kernel
def f_X4_ruleAt (σ : Mem) (x1 : Int32) : Option Nat :=
  (if x1 < 0 then
  none
  else
  (if (σ 0 7) ≤ x1 then
  none
  else
  (if 40 ≤ x1 then
  none
  else
  some x1.toNatClampNeg)))
set_option maxRecDepth 100000 in
set_option maxHeartbeats 4000000 in
theorem b_X4_ruleAt_0 {p : Program} {l : Launch} {e : Env} {s : State} {m : MethodId} {args : Array Value} {below : List Frame} {meth : Method} {c : Code} {D : va_G} {cs : Nat → ClassId} {ad : Nat → Nat} {nr nx : Nat} {wy : Int32} {T : Mem} {w0 : va_W} {X : Option Nat} (S : CallFix p m c cX4_ruleAt 2 s args wsX4_ruleAt RX4) (hr : meth.sig.returnType = (some (.object "GardenRules$Rule"))) (hlocks : meth.locks = false) (hK : va_K D vwCl (gT cs) s) (hA : ∀ q, s.heap.size ≤ q → va_A w0 s.heap.size q) (σ : Mem) (x1 : Int32) (hc : CInv nr nx wy T σ) (hf : f_X4_ruleAt σ x1 = X) (H : Heap) (locs : List Loc) (hG : wI D vwCl (va_A w0 s.heap.size) s.heap H locs (GW ad cs nr nx σ)) (ls : Array Slot) (hl : lv_has ls 2 [(0, .ref (ad 0)), (1, .int x1)]) : W p l e ({ frames := 0, cells := 0, slots := 0, locals := 0 } : Room) s m args below meth c H locs 0 0 (MQ below (va_Qq (fun (r : Option Nat) (_ : Unit) => r = X.map (fun i => ad (200 + i))) (fun u t => wPost D vwCl w0 s.heap.size ((fun _ => GW ad cs nr nx σ) u) t) (va_A w0 s.heap.size)) args s 0 0 (va_A w0 s.heap.size)) (F0 m 0 ls []) := by
  have hinX4 := in_X4_ruleAt_X4
  unfold f_X4_ruleAt at hf
  refine lv_iload_n S.1 S.2.1 dX4_ruleAt_0 rfl (lv_at hl 1 rfl) ?_
  refine lv_if_lt (tgt := 27) S.1 S.2.1 dX4_ruleAt_1 (by decide) (fun c_1 => ?_) (fun c_1 => ?_)
  · have hf := ite_p c_1 hf
    refine lv_null S.1 S.2.1 dX4_ruleAt_27 ?_
    exact r_qret S hr hlocks hG () rfl none rfl (congrArg (Option.map (fun i => ad (200 + i))) hf) dX4_ruleAt_28
  · have hf := ite_n c_1 hf
    refine lv_iload_n S.1 S.2.1 dX4_ruleAt_4 rfl (lv_at hl 1 rfl) ?_
    refine lv_aload_n S.1 S.2.1 dX4_ruleAt_5 rfl (lv_at hl 0 rfl) ?_
    refine r_get S hK hG hinX4 0 rfl rfl 7 (by decide) (by decide +kernel) rfl dX4_ruleAt_6 ?_
    refine lv_icmp_ge (tgt := 27) S.1 S.2.1 dX4_ruleAt_9 (by decide) (fun c_9 => ?_) (fun c_9 => ?_)
    · have hf := ite_p c_9 hf
      refine lv_null S.1 S.2.1 dX4_ruleAt_27 ?_
      exact r_qret S hr hlocks hG () rfl none rfl (congrArg (Option.map (fun i => ad (200 + i))) hf) dX4_ruleAt_28
    · have hf := ite_n c_9 hf
      refine lv_iload_n S.1 S.2.1 dX4_ruleAt_12 rfl (lv_at hl 1 rfl) ?_
      refine lv_bipush (v := 40) S.1 S.2.1 dX4_ruleAt_13 (by decide) ?_
      refine lv_icmp_ge (tgt := 27) S.1 S.2.1 dX4_ruleAt_15 (by decide) (fun c_15 => ?_) (fun c_15 => ?_)
      · have hf := ite_p c_15 hf
        refine lv_null S.1 S.2.1 dX4_ruleAt_27 ?_
        exact r_qret S hr hlocks hG () rfl none rfl (congrArg (Option.map (fun i => ad (200 + i))) hf) dX4_ruleAt_28
      · have hf := ite_n c_15 hf
        refine lv_aload_n S.1 S.2.1 dX4_ruleAt_18 rfl (lv_at hl 0 rfl) ?_
        refine r_get S hK hG hinX4 0 rfl rfl 3 (by decide) (by decide +kernel) rfl dX4_ruleAt_19 ?_
        refine lv_iload_n S.1 S.2.1 dX4_ruleAt_22 rfl (lv_at hl 1 rfl) ?_
        refine C_aru S hK hG (vp_lh c_1 c_15 (by decide)) (lt_nI hc.1.1 (by have := hc.1.2; omega) c_1 c_9) dX4_ruleAt_23 ?_
        refine lv_goto (tgt := 28) S.1 S.2.1 dX4_ruleAt_24 (by decide) ?_
        exact r_qret S hr hlocks hG () rfl (some _) rfl (congrArg (Option.map (fun i => ad (200 + i))) hf) dX4_ruleAt_28
theorem k_X4_ruleAt (l : Launch) (D : va_G) (cs : Nat → ClassId) (ad : Nat → Nat) (nr nx : Nat) (σ : Mem) (x1 : Int32) {wy : Int32} {T : Mem} (hc : CInv nr nx wy T σ) : CMq l yX4_ruleAt wsX4_ruleAt ({ frames := 0, cells := 0, slots := 0, locals := 0 } : Room) D vwCl (gT cs) (GW ad cs nr nx σ) [.ref (ad 0), .int x1] (fun (r : Option Nat) (_ : Unit) => r = (f_X4_ruleAt σ x1).map (fun i => ad (200 + i))) (fun _ => GW ad cs nr nx σ) :=
  r_met (by decide) rfl (Nat.le_of_ble_eq_true rfl) (fun p e s m args below meth c ls S hr hlocks _ hK hA hG hl => b_X4_ruleAt_0 S hr hlocks hK hA σ x1 hc rfl _ _ hG ls hl)
theorem in_X4_actAt_X4 : ∀ w ∈ wsX40, w ∈ wsX4_actAt := by decide +kernel
def f_X4_actAt (σ : Mem) (x1 : Int32) : Option Nat :=
  (if x1 < 0 then
  none
  else
  (if (σ 0 8) ≤ x1 then
  none
  else
  (if 40 ≤ x1 then
  none
  else
  some x1.toNatClampNeg)))
set_option maxRecDepth 100000 in
set_option maxHeartbeats 4000000 in
theorem b_X4_actAt_0 {p : Program} {l : Launch} {e : Env} {s : State} {m : MethodId} {args : Array Value} {below : List Frame} {meth : Method} {c : Code} {D : va_G} {cs : Nat → ClassId} {ad : Nat → Nat} {nr nx : Nat} {wy : Int32} {T : Mem} {w0 : va_W} {X : Option Nat} (S : CallFix p m c cX4_actAt 2 s args wsX4_actAt RX4) (hr : meth.sig.returnType = (some (.object "GardenRules$Act"))) (hlocks : meth.locks = false) (hK : va_K D vwCl (gT cs) s) (hA : ∀ q, s.heap.size ≤ q → va_A w0 s.heap.size q) (σ : Mem) (x1 : Int32) (hc : CInv nr nx wy T σ) (hf : f_X4_actAt σ x1 = X) (H : Heap) (locs : List Loc) (hG : wI D vwCl (va_A w0 s.heap.size) s.heap H locs (GW ad cs nr nx σ)) (ls : Array Slot) (hl : lv_has ls 2 [(0, .ref (ad 0)), (1, .int x1)]) : W p l e ({ frames := 0, cells := 0, slots := 0, locals := 0 } : Room) s m args below meth c H locs 0 0 (MQ below (va_Qq (fun (r : Option Nat) (_ : Unit) => r = X.map (fun i => ad (300 + i))) (fun u t => wPost D vwCl w0 s.heap.size ((fun _ => GW ad cs nr nx σ) u) t) (va_A w0 s.heap.size)) args s 0 0 (va_A w0 s.heap.size)) (F0 m 0 ls []) := by
  have hinX4 := in_X4_actAt_X4
  unfold f_X4_actAt at hf
  refine lv_iload_n S.1 S.2.1 dX4_actAt_0 rfl (lv_at hl 1 rfl) ?_
  refine lv_if_lt (tgt := 27) S.1 S.2.1 dX4_actAt_1 (by decide) (fun c_1 => ?_) (fun c_1 => ?_)
  · have hf := ite_p c_1 hf
    refine lv_null S.1 S.2.1 dX4_actAt_27 ?_
    exact r_qret S hr hlocks hG () rfl none rfl (congrArg (Option.map (fun i => ad (300 + i))) hf) dX4_actAt_28
  · have hf := ite_n c_1 hf
    refine lv_iload_n S.1 S.2.1 dX4_actAt_4 rfl (lv_at hl 1 rfl) ?_
    refine lv_aload_n S.1 S.2.1 dX4_actAt_5 rfl (lv_at hl 0 rfl) ?_
    refine r_get S hK hG hinX4 0 rfl rfl 8 (by decide) (by decide +kernel) rfl dX4_actAt_6 ?_
    refine lv_icmp_ge (tgt := 27) S.1 S.2.1 dX4_actAt_9 (by decide) (fun c_9 => ?_) (fun c_9 => ?_)
    · have hf := ite_p c_9 hf
      refine lv_null S.1 S.2.1 dX4_actAt_27 ?_
      exact r_qret S hr hlocks hG () rfl none rfl (congrArg (Option.map (fun i => ad (300 + i))) hf) dX4_actAt_28
    · have hf := ite_n c_9 hf
      refine lv_iload_n S.1 S.2.1 dX4_actAt_12 rfl (lv_at hl 1 rfl) ?_
      refine lv_bipush (v := 40) S.1 S.2.1 dX4_actAt_13 (by decide) ?_
      refine lv_icmp_ge (tgt := 27) S.1 S.2.1 dX4_actAt_15 (by decide) (fun c_15 => ?_) (fun c_15 => ?_)
      · have hf := ite_p c_15 hf
        refine lv_null S.1 S.2.1 dX4_actAt_27 ?_
        exact r_qret S hr hlocks hG () rfl none rfl (congrArg (Option.map (fun i => ad (300 + i))) hf) dX4_actAt_28
      · have hf := ite_n c_15 hf
        refine lv_aload_n S.1 S.2.1 dX4_actAt_18 rfl (lv_at hl 0 rfl) ?_
        refine r_get S hK hG hinX4 0 rfl rfl 4 (by decide) (by decide +kernel) rfl dX4_actAt_19 ?_
        refine lv_iload_n S.1 S.2.1 dX4_actAt_22 rfl (lv_at hl 1 rfl) ?_
        refine C_aac S hK hG (vp_lh c_1 c_15 (by decide)) (lt_nI hc.2.1.1 (by have := hc.2.1.2; omega) c_1 c_9) dX4_actAt_23 ?_
        refine lv_goto (tgt := 28) S.1 S.2.1 dX4_actAt_24 (by decide) ?_
        exact r_qret S hr hlocks hG () rfl (some _) rfl (congrArg (Option.map (fun i => ad (300 + i))) hf) dX4_actAt_28
theorem k_X4_actAt (l : Launch) (D : va_G) (cs : Nat → ClassId) (ad : Nat → Nat) (nr nx : Nat) (σ : Mem) (x1 : Int32) {wy : Int32} {T : Mem} (hc : CInv nr nx wy T σ) : CMq l yX4_actAt wsX4_actAt ({ frames := 0, cells := 0, slots := 0, locals := 0 } : Room) D vwCl (gT cs) (GW ad cs nr nx σ) [.ref (ad 0), .int x1] (fun (r : Option Nat) (_ : Unit) => r = (f_X4_actAt σ x1).map (fun i => ad (300 + i))) (fun _ => GW ad cs nr nx σ) :=
  r_met (by decide) rfl (Nat.le_of_ble_eq_true rfl) (fun p e s m args below meth c ls S hr hlocks _ hK hA hG hl => b_X4_actAt_0 S hr hlocks hK hA σ x1 hc rfl _ _ hG ls hl)
theorem ra_lt {σ : Mem} {x : Int32} {i nr nx : Nat} {wy : Int32} {T : Mem} (h : f_X4_ruleAt σ x = some i) (hc : CInv nr nx wy T σ) : i < nr := by
  unfold f_X4_ruleAt at h
  by_cases h1 : x < 0
  · rw [if_pos h1] at h; cases h
  · rw [if_neg h1] at h
    by_cases h2 : σ 0 7 ≤ x
    · rw [if_pos h2] at h; cases h
    · rw [if_neg h2] at h
      by_cases h3 : 40 ≤ x
      · rw [if_pos h3] at h; cases h
      · rw [if_neg h3] at h
        cases h
        exact lt_nI hc.1.1 (by have := hc.1.2; omega) h1 h2
theorem xa_lt {σ : Mem} {x : Int32} {i nr nx : Nat} {wy : Int32} {T : Mem} (h : f_X4_actAt σ x = some i) (hc : CInv nr nx wy T σ) : i < nx := by
  unfold f_X4_actAt at h
  by_cases h1 : x < 0
  · rw [if_pos h1] at h; cases h
  · rw [if_neg h1] at h
    by_cases h2 : σ 0 8 ≤ x
    · rw [if_pos h2] at h; cases h
    · rw [if_neg h2] at h
      by_cases h3 : 40 ≤ x
      · rw [if_pos h3] at h; cases h
      · rw [if_neg h3] at h
        cases h
        exact lt_nI hc.2.1.1 (by have := hc.2.1.2; omega) h1 h2
theorem cs_vp {x : Int32} (h : ¬ bI (f_X4_isSensor x) = 0) : vp_in x 8 := by
  have h := bI_t h
  unfold f_X4_isSensor at h
  by_cases h1 : x < 0
  · rw [if_pos h1] at h; cases h
  · rw [if_neg h1] at h
    by_cases h2 : 8 ≤ x
    · rw [if_pos h2] at h; cases h
    · exact vp_lh h1 h2 (by decide)
theorem ct_vp {x : Int32} (h : ¬ bI (f_X4_isTank x) = 0) : vp_in x 6 := by
  have h := bI_t h
  unfold f_X4_isTank at h
  by_cases h1 : x < 0
  · rw [if_pos h1] at h; cases h
  · rw [if_neg h1] at h
    by_cases h2 : 6 ≤ x
    · rw [if_pos h2] at h; cases h
    · exact vp_lh h1 h2 (by decide)
theorem lcmp_n0 {v : Int64} (h : ¬ lg_cmp v 0 = 0) : ¬ v = 0 := fun q => h (by rw [q]; decide)
theorem in_X4_isRule_X4 : ∀ w ∈ wsX40, w ∈ wsX4_isRule := by decide +kernel
def f_X4_isRule (σ : Mem) (x1 : Int32) : Bool :=
  (optE (f_X4_ruleAt σ x1) (false) fun i_2 =>
  true)
set_option maxRecDepth 100000 in
set_option maxHeartbeats 4000000 in
theorem b_X4_isRule_0 {p : Program} {l : Launch} {e : Env} {s : State} {m : MethodId} {args : Array Value} {below : List Frame} {meth : Method} {c : Code} {D : va_G} {cs : Nat → ClassId} {ad : Nat → Nat} {nr nx : Nat} {wy : Int32} {T : Mem} {w0 : va_W} {X : Bool} (S : CallFix p m c cX4_isRule 2 s args wsX4_isRule RX4) (hr : meth.sig.returnType = (some .boolean)) (hlocks : meth.locks = false) (hK : va_K D vwCl (gT cs) s) (hA : ∀ q, s.heap.size ≤ q → va_A w0 s.heap.size q) (σ : Mem) (x1 : Int32) (hc : CInv nr nx wy T σ) (hf : f_X4_isRule σ x1 = X) (H : Heap) (locs : List Loc) (hG : wI D vwCl (va_A w0 s.heap.size) s.heap H locs (GW ad cs nr nx σ)) (ls : Array Slot) (hl : lv_has ls 2 [(0, .ref (ad 0)), (1, .int x1)]) : W p l e ({ frames := 1, cells := 0, slots := 0, locals := 21 } : Room) s m args below meth c H locs 0 0 (MQ below (va_Qi (fun (r : Int32) (_ : Unit) => r = bI X) (fun u t => wPost D vwCl w0 s.heap.size ((fun _ => GW ad cs nr nx σ) u) t) (va_A w0 s.heap.size)) args s 0 0 (va_A w0 s.heap.size)) (F0 m 0 ls []) := by
  have hinX4 := in_X4_isRule_X4
  unfold f_X4_isRule at hf
  refine lv_aload_n S.1 S.2.1 dX4_isRule_0 rfl (lv_at hl 0 rfl) ?_
  refine lv_iload_n S.1 S.2.1 dX4_isRule_1 rfl (lv_at hl 1 rfl) ?_
  refine r_callVq S hK hA hG (k_X4_ruleAt l _ _ _ _ _ _ _ hc) (cwV 1 S.2.2.2.2 gX4_isRule_X4_ruleAt rfl rfl rfl (by decide +kernel) ⟨Nat.le_of_ble_eq_true rfl, Nat.le_of_ble_eq_true rfl⟩) (va_recv hK hG.1 (ci := 4) (q0 := 0) rfl rfl) rfl hl.1 rfl (Nat.le_of_ble_eq_true rfl) dX4_isRule_2 ⟨Nat.le_of_ble_eq_true rfl, Nat.le_of_ble_eq_true rfl⟩ (fun r2 _ H locs hw hG => ?_)
  obtain rfl := hw
  refine C_opt (fun ho_2 => ?_) (fun i_2 ho_2 => ?_)
  · have hf := opt_n ho_2 hf
    refine lv_ifnullN (tgt := 12) S.1 S.2.1 dX4_isRule_5 (by decide) ?_
    refine lv_iconst (v := 0) S.1 S.2.1 dX4_isRule_12 (by decide) ?_
    exact r_iret S hr hlocks hG () rfl (congrArg bI hf) (bI_nar false) dX4_isRule_13
  · have hf := opt_s ho_2 hf
    have hi_2 : i_2 < nr := ra_lt ho_2 hc
    refine lv_ifnull S.1 S.2.1 dX4_isRule_5 ?_
    refine lv_iconst (v := 1) S.1 S.2.1 dX4_isRule_8 (by decide) ?_
    refine lv_goto (tgt := 13) S.1 S.2.1 dX4_isRule_9 (by decide) ?_
    exact r_iret S hr hlocks hG () rfl (congrArg bI hf) (bI_nar true) dX4_isRule_13
theorem k_X4_isRule (l : Launch) (D : va_G) (cs : Nat → ClassId) (ad : Nat → Nat) (nr nx : Nat) (σ : Mem) (x1 : Int32) {wy : Int32} {T : Mem} (hc : CInv nr nx wy T σ) : CMi l yX4_isRule wsX4_isRule ({ frames := 1, cells := 0, slots := 0, locals := 21 } : Room) D vwCl (gT cs) (GW ad cs nr nx σ) [.ref (ad 0), .int x1] (fun (r : Int32) (_ : Unit) => r = bI (f_X4_isRule σ x1)) (fun _ => GW ad cs nr nx σ) :=
  r_met (by decide) rfl (Nat.le_of_ble_eq_true rfl) (fun p e s m args below meth c ls S hr hlocks _ hK hA hG hl => b_X4_isRule_0 S hr hlocks hK hA σ x1 hc rfl _ _ hG ls hl)
theorem in_X4_isAct_X4 : ∀ w ∈ wsX40, w ∈ wsX4_isAct := by decide +kernel
def f_X4_isAct (σ : Mem) (x1 : Int32) : Bool :=
  (optE (f_X4_actAt σ x1) (false) fun i_2 =>
  true)
set_option maxRecDepth 100000 in
set_option maxHeartbeats 4000000 in
theorem b_X4_isAct_0 {p : Program} {l : Launch} {e : Env} {s : State} {m : MethodId} {args : Array Value} {below : List Frame} {meth : Method} {c : Code} {D : va_G} {cs : Nat → ClassId} {ad : Nat → Nat} {nr nx : Nat} {wy : Int32} {T : Mem} {w0 : va_W} {X : Bool} (S : CallFix p m c cX4_isAct 2 s args wsX4_isAct RX4) (hr : meth.sig.returnType = (some .boolean)) (hlocks : meth.locks = false) (hK : va_K D vwCl (gT cs) s) (hA : ∀ q, s.heap.size ≤ q → va_A w0 s.heap.size q) (σ : Mem) (x1 : Int32) (hc : CInv nr nx wy T σ) (hf : f_X4_isAct σ x1 = X) (H : Heap) (locs : List Loc) (hG : wI D vwCl (va_A w0 s.heap.size) s.heap H locs (GW ad cs nr nx σ)) (ls : Array Slot) (hl : lv_has ls 2 [(0, .ref (ad 0)), (1, .int x1)]) : W p l e ({ frames := 1, cells := 0, slots := 0, locals := 21 } : Room) s m args below meth c H locs 0 0 (MQ below (va_Qi (fun (r : Int32) (_ : Unit) => r = bI X) (fun u t => wPost D vwCl w0 s.heap.size ((fun _ => GW ad cs nr nx σ) u) t) (va_A w0 s.heap.size)) args s 0 0 (va_A w0 s.heap.size)) (F0 m 0 ls []) := by
  have hinX4 := in_X4_isAct_X4
  unfold f_X4_isAct at hf
  refine lv_aload_n S.1 S.2.1 dX4_isAct_0 rfl (lv_at hl 0 rfl) ?_
  refine lv_iload_n S.1 S.2.1 dX4_isAct_1 rfl (lv_at hl 1 rfl) ?_
  refine r_callVq S hK hA hG (k_X4_actAt l _ _ _ _ _ _ _ hc) (cwV 1 S.2.2.2.2 gX4_isAct_X4_actAt rfl rfl rfl (by decide +kernel) ⟨Nat.le_of_ble_eq_true rfl, Nat.le_of_ble_eq_true rfl⟩) (va_recv hK hG.1 (ci := 4) (q0 := 0) rfl rfl) rfl hl.1 rfl (Nat.le_of_ble_eq_true rfl) dX4_isAct_2 ⟨Nat.le_of_ble_eq_true rfl, Nat.le_of_ble_eq_true rfl⟩ (fun r2 _ H locs hw hG => ?_)
  obtain rfl := hw
  refine C_opt (fun ho_2 => ?_) (fun i_2 ho_2 => ?_)
  · have hf := opt_n ho_2 hf
    refine lv_ifnullN (tgt := 12) S.1 S.2.1 dX4_isAct_5 (by decide) ?_
    refine lv_iconst (v := 0) S.1 S.2.1 dX4_isAct_12 (by decide) ?_
    exact r_iret S hr hlocks hG () rfl (congrArg bI hf) (bI_nar false) dX4_isAct_13
  · have hf := opt_s ho_2 hf
    have hi_2 : i_2 < nx := xa_lt ho_2 hc
    refine lv_ifnull S.1 S.2.1 dX4_isAct_5 ?_
    refine lv_iconst (v := 1) S.1 S.2.1 dX4_isAct_8 (by decide) ?_
    refine lv_goto (tgt := 13) S.1 S.2.1 dX4_isAct_9 (by decide) ?_
    exact r_iret S hr hlocks hG () rfl (congrArg bI hf) (bI_nar true) dX4_isAct_13
theorem k_X4_isAct (l : Launch) (D : va_G) (cs : Nat → ClassId) (ad : Nat → Nat) (nr nx : Nat) (σ : Mem) (x1 : Int32) {wy : Int32} {T : Mem} (hc : CInv nr nx wy T σ) : CMi l yX4_isAct wsX4_isAct ({ frames := 1, cells := 0, slots := 0, locals := 21 } : Room) D vwCl (gT cs) (GW ad cs nr nx σ) [.ref (ad 0), .int x1] (fun (r : Int32) (_ : Unit) => r = bI (f_X4_isAct σ x1)) (fun _ => GW ad cs nr nx σ) :=
  r_met (by decide) rfl (Nat.le_of_ble_eq_true rfl) (fun p e s m args below meth c ls S hr hlocks _ hK hA hG hl => b_X4_isAct_0 S hr hlocks hK hA σ x1 hc rfl _ _ hG ls hl)
theorem in_X4_isActOrNone_X4 : ∀ w ∈ wsX40, w ∈ wsX4_isActOrNone := by decide +kernel
def f_X4_isActOrNone (σ : Mem) (x1 : Int32) : Bool :=
  (if x1 = (-1) then
  true
  else
  (if (bI (f_X4_isAct σ x1)) = 0 then
  false
  else
  true))
set_option maxRecDepth 100000 in
set_option maxHeartbeats 4000000 in
theorem b_X4_isActOrNone_0 {p : Program} {l : Launch} {e : Env} {s : State} {m : MethodId} {args : Array Value} {below : List Frame} {meth : Method} {c : Code} {D : va_G} {cs : Nat → ClassId} {ad : Nat → Nat} {nr nx : Nat} {wy : Int32} {T : Mem} {w0 : va_W} {X : Bool} (S : CallFix p m c cX4_isActOrNone 2 s args wsX4_isActOrNone RX4) (hr : meth.sig.returnType = (some .boolean)) (hlocks : meth.locks = false) (hK : va_K D vwCl (gT cs) s) (hA : ∀ q, s.heap.size ≤ q → va_A w0 s.heap.size q) (σ : Mem) (x1 : Int32) (hc : CInv nr nx wy T σ) (hf : f_X4_isActOrNone σ x1 = X) (H : Heap) (locs : List Loc) (hG : wI D vwCl (va_A w0 s.heap.size) s.heap H locs (GW ad cs nr nx σ)) (ls : Array Slot) (hl : lv_has ls 2 [(0, .ref (ad 0)), (1, .int x1)]) : W p l e ({ frames := 2, cells := 0, slots := 0, locals := 42 } : Room) s m args below meth c H locs 0 0 (MQ below (va_Qi (fun (r : Int32) (_ : Unit) => r = bI X) (fun u t => wPost D vwCl w0 s.heap.size ((fun _ => GW ad cs nr nx σ) u) t) (va_A w0 s.heap.size)) args s 0 0 (va_A w0 s.heap.size)) (F0 m 0 ls []) := by
  have hinX4 := in_X4_isActOrNone_X4
  unfold f_X4_isActOrNone at hf
  refine lv_iload_n S.1 S.2.1 dX4_isActOrNone_0 rfl (lv_at hl 1 rfl) ?_
  refine lv_iconst (v := (-1)) S.1 S.2.1 dX4_isActOrNone_1 (by decide) ?_
  refine lv_icmp_eq (tgt := 13) S.1 S.2.1 dX4_isActOrNone_2 (by decide) (fun c_2 => ?_) (fun c_2 => ?_)
  · have hf := ite_p c_2 hf
    refine lv_iconst (v := 1) S.1 S.2.1 dX4_isActOrNone_13 (by decide) ?_
    refine lv_goto (tgt := 18) S.1 S.2.1 dX4_isActOrNone_14 (by decide) ?_
    exact r_iret S hr hlocks hG () rfl (congrArg bI hf) (bI_nar true) dX4_isActOrNone_18
  · have hf := ite_n c_2 hf
    refine lv_aload_n S.1 S.2.1 dX4_isActOrNone_5 rfl (lv_at hl 0 rfl) ?_
    refine lv_iload_n S.1 S.2.1 dX4_isActOrNone_6 rfl (lv_at hl 1 rfl) ?_
    refine r_callVi S hK hA hG (k_X4_isAct l _ _ _ _ _ _ _ hc) (cwV 1 S.2.2.2.2 gX4_isActOrNone_X4_isAct rfl rfl rfl (by decide +kernel) ⟨Nat.le_of_ble_eq_true rfl, Nat.le_of_ble_eq_true rfl⟩) (va_recv hK hG.1 (ci := 4) (q0 := 0) rfl rfl) rfl hl.1 rfl (Nat.le_of_ble_eq_true rfl) dX4_isActOrNone_7 ⟨Nat.le_of_ble_eq_true rfl, Nat.le_of_ble_eq_true rfl⟩ (fun r7 _ H locs hw hG => ?_)
    obtain rfl := hw
    refine lv_if_eq (tgt := 17) S.1 S.2.1 dX4_isActOrNone_10 (by decide) (fun c_10 => ?_) (fun c_10 => ?_)
    · have hf := ite_p c_10 hf
      refine lv_iconst (v := 0) S.1 S.2.1 dX4_isActOrNone_17 (by decide) ?_
      exact r_iret S hr hlocks hG () rfl (congrArg bI hf) (bI_nar false) dX4_isActOrNone_18
    · have hf := ite_n c_10 hf
      refine lv_iconst (v := 1) S.1 S.2.1 dX4_isActOrNone_13 (by decide) ?_
      refine lv_goto (tgt := 18) S.1 S.2.1 dX4_isActOrNone_14 (by decide) ?_
      exact r_iret S hr hlocks hG () rfl (congrArg bI hf) (bI_nar true) dX4_isActOrNone_18
theorem k_X4_isActOrNone (l : Launch) (D : va_G) (cs : Nat → ClassId) (ad : Nat → Nat) (nr nx : Nat) (σ : Mem) (x1 : Int32) {wy : Int32} {T : Mem} (hc : CInv nr nx wy T σ) : CMi l yX4_isActOrNone wsX4_isActOrNone ({ frames := 2, cells := 0, slots := 0, locals := 42 } : Room) D vwCl (gT cs) (GW ad cs nr nx σ) [.ref (ad 0), .int x1] (fun (r : Int32) (_ : Unit) => r = bI (f_X4_isActOrNone σ x1)) (fun _ => GW ad cs nr nx σ) :=
  r_met (by decide) rfl (Nat.le_of_ble_eq_true rfl) (fun p e s m args below meth c ls S hr hlocks _ hK hA hG hl => b_X4_isActOrNone_0 S hr hlocks hK hA σ x1 hc rfl _ _ hG ls hl)
def f_X4_hasNumbersOfRule (x1 : Int32) (x2 : Int32) (x3 : Int32) : Bool :=
  (if x1 = 1 then
  (if x3 < 0 then
  false
  else
  true)
  else
  (if x1 = 8 then
  (f_X4_isWithin x2 1 100)
  else
  true))
set_option maxRecDepth 100000 in
set_option maxHeartbeats 4000000 in
theorem b_X4_hasNumbersOfRule_0 {p : Program} {l : Launch} {e : Env} {s : State} {m : MethodId} {args : Array Value} {below : List Frame} {meth : Method} {c : Code} {D : va_G} {cl : List vw_C} {tys : List (ClassId × FieldType)} {w w0 : va_W} {X : Bool} (S : CallFix p m c cX4_hasNumbersOfRule 3 s args wsX4_hasNumbersOfRule RX4) (hr : meth.sig.returnType = (some .boolean)) (hlocks : meth.locks = false) (hK : va_K D cl tys s) (hA : ∀ q, s.heap.size ≤ q → va_A w0 s.heap.size q) (x1 : Int32) (x2 : Int32) (x3 : Int32) (hf : f_X4_hasNumbersOfRule x1 x2 x3 = X) (H : Heap) (locs : List Loc) (hG : wI D cl (va_A w0 s.heap.size) s.heap H locs w) (ls : Array Slot) (hl : lv_has ls 3 [(0, .int x1), (1, .int x2), (2, .int x3)]) : W p l e ({ frames := 1, cells := 0, slots := 0, locals := 22 } : Room) s m args below meth c H locs 0 0 (MQ below (va_Qi (fun (r : Int32) (_ : Unit) => r = bI X) (fun u t => wPost D cl w0 s.heap.size ((fun _ => w) u) t) (va_A w0 s.heap.size)) args s 0 0 (va_A w0 s.heap.size)) (F0 m 0 ls []) := by
  unfold f_X4_hasNumbersOfRule at hf
  refine lv_iload_n S.1 S.2.1 dX4_hasNumbersOfRule_0 rfl (lv_at hl 0 rfl) ?_
  refine (Decidable.em (x1 = 1)).elim (fun c_1_1 => ?_) (fun c_1_1 => ?_)
  · have hf := ite_p c_1_1 hf
    refine lv_lookup (off := 27) (tgt := 28) S.1 S.2.1 dX4_hasNumbersOfRule_1 (by decide) (by rw [c_1_1]; rfl) (by decide) ?_
    refine lv_iload_n S.1 S.2.1 dX4_hasNumbersOfRule_28 rfl (lv_at hl 2 rfl) ?_
    refine lv_if_lt (tgt := 36) S.1 S.2.1 dX4_hasNumbersOfRule_29 (by decide) (fun c_29 => ?_) (fun c_29 => ?_)
    · have hf := ite_p c_29 hf
      refine lv_iconst (v := 0) S.1 S.2.1 dX4_hasNumbersOfRule_36 (by decide) ?_
      exact r_iret S hr hlocks hG () rfl (congrArg bI hf) (bI_nar false) dX4_hasNumbersOfRule_37
    · have hf := ite_n c_29 hf
      refine lv_iconst (v := 1) S.1 S.2.1 dX4_hasNumbersOfRule_32 (by decide) ?_
      refine lv_goto (tgt := 37) S.1 S.2.1 dX4_hasNumbersOfRule_33 (by decide) ?_
      exact r_iret S hr hlocks hG () rfl (congrArg bI hf) (bI_nar true) dX4_hasNumbersOfRule_37
  have hf := ite_n c_1_1 hf
  refine (Decidable.em (x1 = 8)).elim (fun c_1_8 => ?_) (fun c_1_8 => ?_)
  · have hf := ite_p c_1_8 hf
    refine lv_lookup (off := 37) (tgt := 38) S.1 S.2.1 dX4_hasNumbersOfRule_1 (by decide) (by rw [c_1_8]; rfl) (by decide) ?_
    refine lv_iload_n S.1 S.2.1 dX4_hasNumbersOfRule_38 rfl (lv_at hl 1 rfl) ?_
    refine lv_iconst (v := 1) S.1 S.2.1 dX4_hasNumbersOfRule_39 (by decide) ?_
    refine lv_bipush (v := 100) S.1 S.2.1 dX4_hasNumbersOfRule_40 (by decide) ?_
    refine r_callSi S hK hA hG (k_X4_isWithin l _ _ _ _ _ _ _) (cwS 3 S.2.2.2.2 gX4_hasNumbersOfRule_X4_isWithin rfl rfl rfl (by decide +kernel) ⟨Nat.le_of_ble_eq_true rfl, Nat.le_of_ble_eq_true rfl⟩) rfl hl.1 rfl (Nat.le_of_ble_eq_true rfl) dX4_hasNumbersOfRule_42 ⟨Nat.le_of_ble_eq_true rfl, Nat.le_of_ble_eq_true rfl⟩ (fun r42 _ H locs hw hG => ?_)
    obtain rfl := hw
    exact r_iret S hr hlocks hG () rfl (congrArg bI hf) (bI_nar (f_X4_isWithin x2 1 100)) dX4_hasNumbersOfRule_45
  have hf := ite_n c_1_8 hf
  refine lv_lookup (off := 45) (tgt := 46) S.1 S.2.1 dX4_hasNumbersOfRule_1 (by decide) (by have h0 := sw_ne (z := 1) rfl c_1_1; have h1 := sw_ne (z := 8) rfl c_1_8; simp [Op.lookupswitch.offset, Ne.symm h0, Ne.symm h1]) (by decide) ?_
  refine lv_iconst (v := 1) S.1 S.2.1 dX4_hasNumbersOfRule_46 (by decide) ?_
  exact r_iret S hr hlocks hG () rfl (congrArg bI hf) (bI_nar true) dX4_hasNumbersOfRule_47
theorem k_X4_hasNumbersOfRule (l : Launch) (D : va_G) (cl : List vw_C) (tys : List (ClassId × FieldType)) (w : va_W) (x1 : Int32) (x2 : Int32) (x3 : Int32) : CMi l yX4_hasNumbersOfRule wsX4_hasNumbersOfRule ({ frames := 1, cells := 0, slots := 0, locals := 22 } : Room) D cl tys w [.int x1, .int x2, .int x3] (fun (r : Int32) (_ : Unit) => r = bI (f_X4_hasNumbersOfRule x1 x2 x3)) (fun _ => w) :=
  r_met (by decide) rfl (Nat.le_of_ble_eq_true rfl) (fun p e s m args below meth c ls S hr hlocks _ hK hA hG hl => b_X4_hasNumbersOfRule_0 S hr hlocks hK hA x1 x2 x3 rfl _ _ hG ls hl)
def f_X4_hasNumbersOfAct (x1 : Int32) (x2 : Int32) (x3 : Int32) : Bool :=
  (if x1 = 0 then
  (f_X4_isWithin x2 0 1000)
  else
  (if x1 = 1 then
  (f_X4_isWithin x3 0 1000)
  else
  (if x1 = 2 then
  true
  else
  (if x1 = 3 then
  true
  else
  (if x1 = 4 then
  (f_X4_isWithin x2 0 9)
  else
  (if x1 = 5 then
  (f_X4_isWithin x2 0 100)
  else
  true))))))
set_option maxRecDepth 100000 in
set_option maxHeartbeats 4000000 in
theorem b_X4_hasNumbersOfAct_0 {p : Program} {l : Launch} {e : Env} {s : State} {m : MethodId} {args : Array Value} {below : List Frame} {meth : Method} {c : Code} {D : va_G} {cl : List vw_C} {tys : List (ClassId × FieldType)} {w w0 : va_W} {X : Bool} (S : CallFix p m c cX4_hasNumbersOfAct 3 s args wsX4_hasNumbersOfAct RX4) (hr : meth.sig.returnType = (some .boolean)) (hlocks : meth.locks = false) (hK : va_K D cl tys s) (hA : ∀ q, s.heap.size ≤ q → va_A w0 s.heap.size q) (x1 : Int32) (x2 : Int32) (x3 : Int32) (hf : f_X4_hasNumbersOfAct x1 x2 x3 = X) (H : Heap) (locs : List Loc) (hG : wI D cl (va_A w0 s.heap.size) s.heap H locs w) (ls : Array Slot) (hl : lv_has ls 3 [(0, .int x1), (1, .int x2), (2, .int x3)]) : W p l e ({ frames := 1, cells := 0, slots := 0, locals := 22 } : Room) s m args below meth c H locs 0 0 (MQ below (va_Qi (fun (r : Int32) (_ : Unit) => r = bI X) (fun u t => wPost D cl w0 s.heap.size ((fun _ => w) u) t) (va_A w0 s.heap.size)) args s 0 0 (va_A w0 s.heap.size)) (F0 m 0 ls []) := by
  unfold f_X4_hasNumbersOfAct at hf
  refine lv_iload_n S.1 S.2.1 dX4_hasNumbersOfAct_0 rfl (lv_at hl 0 rfl) ?_
  refine (Decidable.em (x1 = 0)).elim (fun c_1_0 => ?_) (fun c_1_0 => ?_)
  · have hf := ite_p c_1_0 hf
    refine lv_tableIn (off := 39) (tgt := 40) S.1 S.2.1 dX4_hasNumbersOfAct_1 (by rw [c_1_0]; decide) (by rw [c_1_0]; decide) (by rw [c_1_0]; rfl) (by decide) ?_
    refine lv_iload_n S.1 S.2.1 dX4_hasNumbersOfAct_40 rfl (lv_at hl 1 rfl) ?_
    refine lv_iconst (v := 0) S.1 S.2.1 dX4_hasNumbersOfAct_41 (by decide) ?_
    refine lv_sipush (v := 1000) S.1 S.2.1 dX4_hasNumbersOfAct_42 (by decide) ?_
    refine r_callSi S hK hA hG (k_X4_isWithin l _ _ _ _ _ _ _) (cwS 3 S.2.2.2.2 gX4_hasNumbersOfAct_X4_isWithin rfl rfl rfl (by decide +kernel) ⟨Nat.le_of_ble_eq_true rfl, Nat.le_of_ble_eq_true rfl⟩) rfl hl.1 rfl (Nat.le_of_ble_eq_true rfl) dX4_hasNumbersOfAct_45 ⟨Nat.le_of_ble_eq_true rfl, Nat.le_of_ble_eq_true rfl⟩ (fun r45 _ H locs hw hG => ?_)
    obtain rfl := hw
    exact r_iret S hr hlocks hG () rfl (congrArg bI hf) (bI_nar (f_X4_isWithin x2 0 1000)) dX4_hasNumbersOfAct_48
  have hf := ite_n c_1_0 hf
  refine (Decidable.em (x1 = 1)).elim (fun c_1_1 => ?_) (fun c_1_1 => ?_)
  · have hf := ite_p c_1_1 hf
    refine lv_tableIn (off := 48) (tgt := 49) S.1 S.2.1 dX4_hasNumbersOfAct_1 (by rw [c_1_1]; decide) (by rw [c_1_1]; decide) (by rw [c_1_1]; rfl) (by decide) ?_
    refine lv_iload_n S.1 S.2.1 dX4_hasNumbersOfAct_49 rfl (lv_at hl 2 rfl) ?_
    refine lv_iconst (v := 0) S.1 S.2.1 dX4_hasNumbersOfAct_50 (by decide) ?_
    refine lv_sipush (v := 1000) S.1 S.2.1 dX4_hasNumbersOfAct_51 (by decide) ?_
    refine r_callSi S hK hA hG (k_X4_isWithin l _ _ _ _ _ _ _) (cwS 3 S.2.2.2.2 gX4_hasNumbersOfAct_X4_isWithin rfl rfl rfl (by decide +kernel) ⟨Nat.le_of_ble_eq_true rfl, Nat.le_of_ble_eq_true rfl⟩) rfl hl.1 rfl (Nat.le_of_ble_eq_true rfl) dX4_hasNumbersOfAct_54 ⟨Nat.le_of_ble_eq_true rfl, Nat.le_of_ble_eq_true rfl⟩ (fun r54 _ H locs hw hG => ?_)
    obtain rfl := hw
    exact r_iret S hr hlocks hG () rfl (congrArg bI hf) (bI_nar (f_X4_isWithin x3 0 1000)) dX4_hasNumbersOfAct_57
  have hf := ite_n c_1_1 hf
  refine (Decidable.em (x1 = 2)).elim (fun c_1_2 => ?_) (fun c_1_2 => ?_)
  · have hf := ite_p c_1_2 hf
    refine lv_tableIn (off := 73) (tgt := 74) S.1 S.2.1 dX4_hasNumbersOfAct_1 (by rw [c_1_2]; decide) (by rw [c_1_2]; decide) (by rw [c_1_2]; rfl) (by decide) ?_
    refine lv_iconst (v := 1) S.1 S.2.1 dX4_hasNumbersOfAct_74 (by decide) ?_
    exact r_iret S hr hlocks hG () rfl (congrArg bI hf) (bI_nar true) dX4_hasNumbersOfAct_75
  have hf := ite_n c_1_2 hf
  refine (Decidable.em (x1 = 3)).elim (fun c_1_3 => ?_) (fun c_1_3 => ?_)
  · have hf := ite_p c_1_3 hf
    refine lv_tableIn (off := 73) (tgt := 74) S.1 S.2.1 dX4_hasNumbersOfAct_1 (by rw [c_1_3]; decide) (by rw [c_1_3]; decide) (by rw [c_1_3]; rfl) (by decide) ?_
    refine lv_iconst (v := 1) S.1 S.2.1 dX4_hasNumbersOfAct_74 (by decide) ?_
    exact r_iret S hr hlocks hG () rfl (congrArg bI hf) (bI_nar true) dX4_hasNumbersOfAct_75
  have hf := ite_n c_1_3 hf
  refine (Decidable.em (x1 = 4)).elim (fun c_1_4 => ?_) (fun c_1_4 => ?_)
  · have hf := ite_p c_1_4 hf
    refine lv_tableIn (off := 57) (tgt := 58) S.1 S.2.1 dX4_hasNumbersOfAct_1 (by rw [c_1_4]; decide) (by rw [c_1_4]; decide) (by rw [c_1_4]; rfl) (by decide) ?_
    refine lv_iload_n S.1 S.2.1 dX4_hasNumbersOfAct_58 rfl (lv_at hl 1 rfl) ?_
    refine lv_iconst (v := 0) S.1 S.2.1 dX4_hasNumbersOfAct_59 (by decide) ?_
    refine lv_bipush (v := 9) S.1 S.2.1 dX4_hasNumbersOfAct_60 (by decide) ?_
    refine r_callSi S hK hA hG (k_X4_isWithin l _ _ _ _ _ _ _) (cwS 3 S.2.2.2.2 gX4_hasNumbersOfAct_X4_isWithin rfl rfl rfl (by decide +kernel) ⟨Nat.le_of_ble_eq_true rfl, Nat.le_of_ble_eq_true rfl⟩) rfl hl.1 rfl (Nat.le_of_ble_eq_true rfl) dX4_hasNumbersOfAct_62 ⟨Nat.le_of_ble_eq_true rfl, Nat.le_of_ble_eq_true rfl⟩ (fun r62 _ H locs hw hG => ?_)
    obtain rfl := hw
    exact r_iret S hr hlocks hG () rfl (congrArg bI hf) (bI_nar (f_X4_isWithin x2 0 9)) dX4_hasNumbersOfAct_65
  have hf := ite_n c_1_4 hf
  refine (Decidable.em (x1 = 5)).elim (fun c_1_5 => ?_) (fun c_1_5 => ?_)
  · have hf := ite_p c_1_5 hf
    refine lv_tableIn (off := 65) (tgt := 66) S.1 S.2.1 dX4_hasNumbersOfAct_1 (by rw [c_1_5]; decide) (by rw [c_1_5]; decide) (by rw [c_1_5]; rfl) (by decide) ?_
    refine lv_iload_n S.1 S.2.1 dX4_hasNumbersOfAct_66 rfl (lv_at hl 1 rfl) ?_
    refine lv_iconst (v := 0) S.1 S.2.1 dX4_hasNumbersOfAct_67 (by decide) ?_
    refine lv_bipush (v := 100) S.1 S.2.1 dX4_hasNumbersOfAct_68 (by decide) ?_
    refine r_callSi S hK hA hG (k_X4_isWithin l _ _ _ _ _ _ _) (cwS 3 S.2.2.2.2 gX4_hasNumbersOfAct_X4_isWithin rfl rfl rfl (by decide +kernel) ⟨Nat.le_of_ble_eq_true rfl, Nat.le_of_ble_eq_true rfl⟩) rfl hl.1 rfl (Nat.le_of_ble_eq_true rfl) dX4_hasNumbersOfAct_70 ⟨Nat.le_of_ble_eq_true rfl, Nat.le_of_ble_eq_true rfl⟩ (fun r70 _ H locs hw hG => ?_)
    obtain rfl := hw
    exact r_iret S hr hlocks hG () rfl (congrArg bI hf) (bI_nar (f_X4_isWithin x2 0 100)) dX4_hasNumbersOfAct_73
  have hf := ite_n c_1_5 hf
  refine lv_tableOut (tgt := 74) S.1 S.2.1 dX4_hasNumbersOfAct_1 (by have h0 := sw_ne (z := 0) rfl c_1_0; have h1 := sw_ne (z := 1) rfl c_1_1; have h2 := sw_ne (z := 2) rfl c_1_2; have h3 := sw_ne (z := 3) rfl c_1_3; have h4 := sw_ne (z := 4) rfl c_1_4; have h5 := sw_ne (z := 5) rfl c_1_5; omega) (by decide) ?_
  refine lv_iconst (v := 1) S.1 S.2.1 dX4_hasNumbersOfAct_74 (by decide) ?_
  exact r_iret S hr hlocks hG () rfl (congrArg bI hf) (bI_nar true) dX4_hasNumbersOfAct_75
theorem k_X4_hasNumbersOfAct (l : Launch) (D : va_G) (cl : List vw_C) (tys : List (ClassId × FieldType)) (w : va_W) (x1 : Int32) (x2 : Int32) (x3 : Int32) : CMi l yX4_hasNumbersOfAct wsX4_hasNumbersOfAct ({ frames := 1, cells := 0, slots := 0, locals := 22 } : Room) D cl tys w [.int x1, .int x2, .int x3] (fun (r : Int32) (_ : Unit) => r = bI (f_X4_hasNumbersOfAct x1 x2 x3)) (fun _ => w) :=
  r_met (by decide) rfl (Nat.le_of_ble_eq_true rfl) (fun p e s m args below meth c ls S hr hlocks _ hK hA hG hl => b_X4_hasNumbersOfAct_0 S hr hlocks hK hA x1 x2 x3 rfl _ _ hG ls hl)
