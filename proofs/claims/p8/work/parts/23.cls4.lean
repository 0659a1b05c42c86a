/-- how deep a RULE, an ACT may still go -/
def dOK (n : Nat) (d : Int32) : Prop := ∃ j : Nat, d = nI j ∧ j ≤ 40 ∧ 41 ≤ j + n
theorem dOK_s {n : Nat} {d : Int32} (h : dOK (n + 1) d) (hc : d < 40) : dOK n (d + 1) := by
  obtain ⟨j, rfl, h1, h2⟩ := h
  have h3 : j < 40 := (nI_ltI (by omega) (by decide)).mp (show nI j < nI 40 from hc)
  exact ⟨j + 1, nI_1 j, by omega, by omega⟩
theorem dOK_0 : dOK 41 0 := ⟨0, rfl, by omega, by omega⟩
abbrev HSays (l : Launch) (D : va_G) (cs : Nat → ClassId) (ad : Nat → Nat) (nr nx n : Nat) (rec : Mem → Int32 → Int32 → Bool × Mem) : Prop := ∀ (σ : Mem) (x d : Int32) (wy : Int32) (T : Mem), CInv nr nx wy T σ → dOK n d → CMi l yX4_says wsX4_says ({ frames := 2 * n + 4, cells := 0, slots := 0, locals := 46 * n + 200 } : Room) D vwCl (gT cs) (GW ad cs nr nx σ) [.ref (ad 0), .int x, .int d] (fun (r : Int32) (u : Mem) => (∃ b, r = bI b ∧ (b, u) = rec σ x d) ∧ CInv nr nx wy T u) (fun u => GW ad cs nr nx u)
theorem in_X4_saysBoth_X2 : ∀ w ∈ wsX20, w ∈ wsX4_saysBoth := by decide +kernel
theorem in_X4_saysBoth_X4 : ∀ w ∈ wsX40, w ∈ wsX4_saysBoth := by decide +kernel
def f_X4_saysBoth (rec : Mem → Int32 → Int32 → Bool × Mem) (σ : Mem) (i : Nat) (x2 : Int32) : Bool × Mem :=
  bnd2 (rec σ (σ (200 + i) 1) (x2 + 1)) fun b2 σ1 =>
  (if (σ1 0 13) = 0 then
  (if (bI b2) = 0 then
  (false, σ1)
  else
  bnd2 (rec σ1 (σ1 (200 + i) 2) (x2 + 1)) fun b4 σ3 =>
  (b4, σ3))
  else
  (false, σ1))
set_option maxRecDepth 100000 in
set_option maxHeartbeats 4000000 in
theorem b_X4_saysBoth_0 {p : Program} {l : Launch} {e : Env} {s : State} {m : MethodId} {args : Array Value} {below : List Frame} {meth : Method} {c : Code} {D : va_G} {cs : Nat → ClassId} {ad : Nat → Nat} {nr nx : Nat} {wy : Int32} {T : Mem} {w0 : va_W} {n : Nat} {rec : Mem → Int32 → Int32 → Bool × Mem} (hrec : HSays l D cs ad nr nx n rec) {X : Bool × Mem} (S : CallFix p m c cX4_saysBoth 4 s args wsX4_saysBoth RX4) (hr : meth.sig.returnType = (some .boolean)) (hlocks : meth.locks = false) (hK : va_K D vwCl (gT cs) s) (hA : ∀ q, s.heap.size ≤ q → va_A w0 s.heap.size q) (σ : Mem) (i : Nat) (x2 : Int32) (hc : CInv nr nx wy T σ) (hd : dOK n (x2 + 1)) (hi : i < nr) (hf : f_X4_saysBoth rec σ i x2 = X) (H : Heap) (locs : List Loc) (hG : wI D vwCl (va_A w0 s.heap.size) s.heap H locs (GW ad cs nr nx σ)) (ls : Array Slot) (hl : lv_has ls 4 [(0, .ref (ad 0)), (1, .ref (ad (200 + i))), (2, .int x2)]) : W p l e ({ frames := 2 * n + 5, cells := 0, slots := 0, locals := 46 * n + 223 } : Room) s m args below meth c H locs 0 0 (MQ below (va_Qi (fun (r : Int32) (u : Mem) => (∃ b, r = bI b ∧ (b, u) = X) ∧ CInv nr nx wy T u) (fun u t => wPost D vwCl w0 s.heap.size ((fun u => GW ad cs nr nx u) u) t) (va_A w0 s.heap.size)) args s 0 0 (va_A w0 s.heap.size)) (F0 m 0 ls []) := by
  have hinX2 := in_X4_saysBoth_X2
  have hinX4 := in_X4_saysBoth_X4
  unfold f_X4_saysBoth at hf
  refine lv_aload_n S.1 S.2.1 dX4_saysBoth_0 rfl (lv_at hl 0 rfl) ?_
  refine lv_aload_n S.1 S.2.1 dX4_saysBoth_1 rfl (lv_at hl 1 rfl) ?_
  refine r_get S hK hG hinX2 (53 + i) (GW_ru _ _ _ _ _ hi) rfl 1 (by decide) (by decide +kernel) rfl dX4_saysBoth_2 ?_
  refine lv_iload_n S.1 S.2.1 dX4_saysBoth_5 rfl (lv_at hl 2 rfl) ?_
  refine lv_iconst (v := 1) S.1 S.2.1 dX4_saysBoth_6 (by decide) ?_
  refine lv_iadd S.1 S.2.1 dX4_saysBoth_7 ?_
  refine r_callVi S hK hA hG (hrec _ _ _ _ _ hc hd) (cwV 2 S.2.2.2.2 gX4_saysBoth_X4_says rfl rfl rfl (by decide +kernel) ⟨by try dsimp only; omega, by try dsimp only; omega⟩) (va_recv hK hG.1 (ci := 4) (q0 := 0) rfl rfl) rfl hl.1 rfl (Nat.le_of_ble_eq_true rfl) dX4_saysBoth_8 ⟨Nat.le_of_ble_eq_true rfl, Nat.le_of_ble_eq_true rfl⟩ (fun r_ σ1 H locs hw hG => ?_)
  obtain ⟨⟨b2, rfl, e_σ1⟩, hc⟩ := hw
  have hf := bnd2_p e_σ1 hf
  refine lv_istore_n (lv' := [(3, .int (bI b2)), (0, .ref (ad 0)), (1, .ref (ad (200 + i))), (2, .int x2)]) S.1 S.2.1 dX4_saysBoth_11 rfl hl (by decide) rfl (fun ls hl => ?_)
  refine lv_aload_n S.1 S.2.1 dX4_saysBoth_12 rfl (lv_at hl 1 rfl) ?_
  refine r_get S hK hG hinX4 0 rfl rfl 13 (by decide) (by decide +kernel) rfl dX4_saysBoth_13 ?_
  refine lv_if_ne (tgt := 23) S.1 S.2.1 dX4_saysBoth_16 (by decide) (fun c_16 => ?_) (fun c_16 => ?_)
  · have hf := ite_n c_16 hf
    refine lv_iconst (v := 0) S.1 S.2.1 dX4_saysBoth_23 (by decide) ?_
    exact r_iret S hr hlocks hG _ rfl ⟨⟨false, rfl, hf⟩, hc⟩ (bI_nar false) dX4_saysBoth_24
  · have hf := ite_p c_16 hf
    refine lv_iload_n S.1 S.2.1 dX4_saysBoth_19 rfl (lv_at hl 0 rfl) ?_
    refine lv_if_ne (tgt := 25) S.1 S.2.1 dX4_saysBoth_20 (by decide) (fun c_20 => ?_) (fun c_20 => ?_)
    · have hf := ite_n c_20 hf
      refine lv_aload_n S.1 S.2.1 dX4_saysBoth_25 rfl (lv_at hl 1 rfl) ?_
      refine lv_aload_n S.1 S.2.1 dX4_saysBoth_26 rfl (lv_at hl 2 rfl) ?_
      refine r_get S hK hG hinX2 (53 + i) (GW_ru _ _ _ _ _ hi) rfl 2 (by decide) (by decide +kernel) rfl dX4_saysBoth_27 ?_
      refine lv_iload_n S.1 S.2.1 dX4_saysBoth_30 rfl (lv_at hl 3 rfl) ?_
      refine lv_iconst (v := 1) S.1 S.2.1 dX4_saysBoth_31 (by decide) ?_
      refine lv_iadd S.1 S.2.1 dX4_saysBoth_32 ?_
      refine r_callVi S hK hA hG (hrec _ _ _ _ _ hc hd) (cwV 2 S.2.2.2.2 gX4_saysBoth_X4_says rfl rfl rfl (by decide +kernel) ⟨by try dsimp only; omega, by try dsimp only; omega⟩) (va_recv hK hG.1 (ci := 4) (q0 := 0) rfl rfl) rfl hl.1 rfl (Nat.le_of_ble_eq_true rfl) dX4_saysBoth_33 ⟨Nat.le_of_ble_eq_true rfl, Nat.le_of_ble_eq_true rfl⟩ (fun r_ σ3 H locs hw hG => ?_)
      obtain ⟨⟨b4, rfl, e_σ3⟩, hc⟩ := hw
      have hf := bnd2_p e_σ3 hf
      exact r_iret S hr hlocks hG _ rfl ⟨⟨b4, rfl, hf⟩, hc⟩ (bI_nar b4) dX4_saysBoth_36
    · have hf := ite_p c_20 hf
      refine lv_iconst (v := 0) S.1 S.2.1 dX4_saysBoth_23 (by decide) ?_
      exact r_iret S hr hlocks hG _ rfl ⟨⟨false, rfl, hf⟩, hc⟩ (bI_nar false) dX4_saysBoth_24
theorem k_X4_saysBoth (l : Launch) (D : va_G) (cs : Nat → ClassId) (ad : Nat → Nat) (nr nx : Nat) (σ : Mem) (i : Nat) (x2 : Int32) {wy : Int32} {T : Mem} {n : Nat} {rec : Mem → Int32 → Int32 → Bool × Mem} (hrec : HSays l D cs ad nr nx n rec) (hc : CInv nr nx wy T σ) (hd : dOK n (x2 + 1)) (hi : i < nr) : CMi l yX4_saysBoth wsX4_saysBoth ({ frames := 2 * n + 5, cells := 0, slots := 0, locals := 46 * n + 223 } : Room) D vwCl (gT cs) (GW ad cs nr nx σ) [.ref (ad 0), .ref (ad (200 + i)), .int x2] (fun (r : Int32) (u : Mem) => (∃ b, r = bI b ∧ (b, u) = (f_X4_saysBoth rec σ i x2)) ∧ CInv nr nx wy T u) (fun u => GW ad cs nr nx u) :=
  r_met (by decide) rfl (Nat.le_of_ble_eq_true rfl) (fun p e s m args below meth c ls S hr hlocks _ hK hA hG hl => b_X4_saysBoth_0 hrec S hr hlocks hK hA σ i x2 hc hd hi rfl _ _ hG ls hl)
theorem in_X4_saysEither_X2 : ∀ w ∈ wsX20, w ∈ wsX4_saysEither := by decide +kernel
theorem in_X4_saysEither_X4 : ∀ w ∈ wsX40, w ∈ wsX4_saysEither := by decide +kernel
def f_X4_saysEither (rec : Mem → Int32 → Int32 → Bool × Mem) (σ : Mem) (i : Nat) (x2 : Int32) : Bool × Mem :=
  bnd2 (rec σ (σ (200 + i) 1) (x2 + 1)) fun b2 σ1 =>
  (if (σ1 0 13) = 0 then
  (if (bI b2) = 0 then
  bnd2 (rec σ1 (σ1 (200 + i) 2) (x2 + 1)) fun b4 σ3 =>
  (b4, σ3)
  else
  (b2, σ1))
  else
  (b2, σ1))
set_option maxRecDepth 100000 in
set_option maxHeartbeats 4000000 in
theorem b_X4_saysEither_0 {p : Program} {l : Launch} {e : Env} {s : State} {m : MethodId} {args : Array Value} {below : List Frame} {meth : Method} {c : Code} {D : va_G} {cs : Nat → ClassId} {ad : Nat → Nat} {nr nx : Nat} {wy : Int32} {T : Mem} {w0 : va_W} {n : Nat} {rec : Mem → Int32 → Int32 → Bool × Mem} (hrec : HSays l D cs ad nr nx n rec) {X : Bool × Mem} (S : CallFix p m c cX4_saysEither 4 s args wsX4_saysEither RX4) (hr : meth.sig.returnType = (some .boolean)) (hlocks : meth.locks = false) (hK : va_K D vwCl (gT cs) s) (hA : ∀ q, s.heap.size ≤ q → va_A w0 s.heap.size q) (σ : Mem) (i : Nat) (x2 : Int32) (hc : CInv nr nx wy T σ) (hd : dOK n (x2 + 1)) (hi : i < nr) (hf : f_X4_saysEither rec σ i x2 = X) (H : Heap) (locs : List Loc) (hG : wI D vwCl (va_A w0 s.heap.size) s.heap H locs (GW ad cs nr nx σ)) (ls : Array Slot) (hl : lv_has ls 4 [(0, .ref (ad 0)), (1, .ref (ad (200 + i))), (2, .int x2)]) : W p l e ({ frames := 2 * n + 5, cells := 0, slots := 0, locals := 46 * n + 223 } : Room) s m args below meth c H locs 0 0 (MQ below (va_Qi (fun (r : Int32) (u : Mem) => (∃ b, r = bI b ∧ (b, u) = X) ∧ CInv nr nx wy T u) (fun u t => wPost D vwCl w0 s.heap.size ((fun u => GW ad cs nr nx u) u) t) (va_A w0 s.heap.size)) args s 0 0 (va_A w0 s.heap.size)) (F0 m 0 ls []) := by
  have hinX2 := in_X4_saysEither_X2
  have hinX4 := in_X4_saysEither_X4
  unfold f_X4_saysEither at hf
  refine lv_aload_n S.1 S.2.1 dX4_saysEither_0 rfl (lv_at hl 0 rfl) ?_
  refine lv_aload_n S.1 S.2.1 dX4_saysEither_1 rfl (lv_at hl 1 rfl) ?_
  refine r_get S hK hG hinX2 (53 + i) (GW_ru _ _ _ _ _ hi) rfl 1 (by decide) (by decide +kernel) rfl dX4_saysEither_2 ?_
  refine lv_iload_n S.1 S.2.1 dX4_saysEither_5 rfl (lv_at hl 2 rfl) ?_
  refine lv_iconst (v := 1) S.1 S.2.1 dX4_saysEither_6 (by decide) ?_
  refine lv_iadd S.1 S.2.1 dX4_saysEither_7 ?_
  refine r_callVi S hK hA hG (hrec _ _ _ _ _ hc hd) (cwV 2 S.2.2.2.2 gX4_saysEither_X4_says rfl rfl rfl (by decide +kernel) ⟨by try dsimp only; omega, by try dsimp only; omega⟩) (va_recv hK hG.1 (ci := 4) (q0 := 0) rfl rfl) rfl hl.1 rfl (Nat.le_of_ble_eq_true rfl) dX4_saysEither_8 ⟨Nat.le_of_ble_eq_true rfl, Nat.le_of_ble_eq_true rfl⟩ (fun r_ σ1 H locs hw hG => ?_)
  obtain ⟨⟨b2, rfl, e_σ1⟩, hc⟩ := hw
  have hf := bnd2_p e_σ1 hf
  refine lv_istore_n (lv' := [(3, .int (bI b2)), (0, .ref (ad 0)), (1, .ref (ad (200 + i))), (2, .int x2)]) S.1 S.2.1 dX4_saysEither_11 rfl hl (by decide) rfl (fun ls hl => ?_)
  refine lv_aload_n S.1 S.2.1 dX4_saysEither_12 rfl (lv_at hl 1 rfl) ?_
  refine r_get S hK hG hinX4 0 rfl rfl 13 (by decide) (by decide +kernel) rfl dX4_saysEither_13 ?_
  refine lv_if_ne (tgt := 23) S.1 S.2.1 dX4_saysEither_16 (by decide) (fun c_16 => ?_) (fun c_16 => ?_)
  · have hf := ite_n c_16 hf
    refine lv_iload_n S.1 S.2.1 dX4_saysEither_23 rfl (lv_at hl 0 rfl) ?_
    exact r_iret S hr hlocks hG _ rfl ⟨⟨b2, rfl, hf⟩, hc⟩ (bI_nar b2) dX4_saysEither_24
  · have hf := ite_p c_16 hf
    refine lv_iload_n S.1 S.2.1 dX4_saysEither_19 rfl (lv_at hl 0 rfl) ?_
    refine lv_if_eq (tgt := 25) S.1 S.2.1 dX4_saysEither_20 (by decide) (fun c_20 => ?_) (fun c_20 => ?_)
    · have hf := ite_p c_20 hf
      refine lv_aload_n S.1 S.2.1 dX4_saysEither_25 rfl (lv_at hl 1 rfl) ?_
      refine lv_aload_n S.1 S.2.1 dX4_saysEither_26 rfl (lv_at hl 2 rfl) ?_
      refine r_get S hK hG hinX2 (53 + i) (GW_ru _ _ _ _ _ hi) rfl 2 (by decide) (by decide +kernel) rfl dX4_saysEither_27 ?_
      refine lv_iload_n S.1 S.2.1 dX4_saysEither_30 rfl (lv_at hl 3 rfl) ?_
      refine lv_iconst (v := 1) S.1 S.2.1 dX4_saysEither_31 (by decide) ?_
      refine lv_iadd S.1 S.2.1 dX4_saysEither_32 ?_
      refine r_callVi S hK hA hG (hrec _ _ _ _ _ hc hd) (cwV 2 S.2.2.2.2 gX4_saysEither_X4_says rfl rfl rfl (by decide +kernel) ⟨by try dsimp only; omega, by try dsimp only; omega⟩) (va_recv hK hG.1 (ci := 4) (q0 := 0) rfl rfl) rfl hl.1 rfl (Nat.le_of_ble_eq_true rfl) dX4_saysEither_33 ⟨Nat.le_of_ble_eq_true rfl, Nat.le_of_ble_eq_true rfl⟩ (fun r_ σ3 H locs hw hG => ?_)
      obtain ⟨⟨b4, rfl, e_σ3⟩, hc⟩ := hw
      have hf := bnd2_p e_σ3 hf
      exact r_iret S hr hlocks hG _ rfl ⟨⟨b4, rfl, hf⟩, hc⟩ (bI_nar b4) dX4_saysEither_36
    · have hf := ite_n c_20 hf
      refine lv_iload_n S.1 S.2.1 dX4_saysEither_23 rfl (lv_at hl 0 rfl) ?_
      exact r_iret S hr hlocks hG _ rfl ⟨⟨b2, rfl, hf⟩, hc⟩ (bI_nar b2) dX4_saysEither_24
theorem k_X4_saysEither (l : Launch) (D : va_G) (cs : Nat → ClassId) (ad : Nat → Nat) (nr nx : Nat) (σ : Mem) (i : Nat) (x2 : Int32) {wy : Int32} {T : Mem} {n : Nat} {rec : Mem → Int32 → Int32 → Bool × Mem} (hrec : HSays l D cs ad nr nx n rec) (hc : CInv nr nx wy T σ) (hd : dOK n (x2 + 1)) (hi : i < nr) : CMi l yX4_saysEither wsX4_saysEither ({ frames := 2 * n + 5, cells := 0, slots := 0, locals := 46 * n + 223 } : Room) D vwCl (gT cs) (GW ad cs nr nx σ) [.ref (ad 0), .ref (ad (200 + i)), .int x2] (fun (r : Int32) (u : Mem) => (∃ b, r = bI b ∧ (b, u) = (f_X4_saysEither rec σ i x2)) ∧ CInv nr nx wy T u) (fun u => GW ad cs nr nx u) :=
  r_met (by decide) rfl (Nat.le_of_ble_eq_true rfl) (fun p e s m args below meth c ls S hr hlocks _ hK hA hG hl => b_X4_saysEither_0 hrec S hr hlocks hK hA σ i x2 hc hd hi rfl _ _ hG ls hl)
theorem in_X4_saysOften_X2 : ∀ w ∈ wsX20, w ∈ wsX4_saysOften := by decide +kernel
theorem in_X4_saysOften_X4 : ∀ w ∈ wsX40, w ∈ wsX4_saysOften := by decide +kernel
def f_X4_saysOften (rec : Mem → Int32 → Int32 → Bool × Mem) (σ : Mem) (i : Nat) (x2 : Int32) : Bool × Mem :=
  bnd2 (rec σ (σ (200 + i) 1) (x2 + 1)) fun b2 σ1 =>
  (if (σ1 0 13) = 0 then
  (if (bI b2) = 0 then
  (if (σ1 (200 + i) 5) < (σ1 (200 + i) 2) then
  (false, σ1)
  else
  (true, σ1))
  else
  bnd (mset σ1 (200 + i) 5 ((σ1 (200 + i) 5) + 1)) fun σ3 =>
  (if (σ3 (200 + i) 5) < (σ3 (200 + i) 2) then
  (false, σ3)
  else
  (true, σ3)))
  else
  (if (σ1 (200 + i) 5) < (σ1 (200 + i) 2) then
  (false, σ1)
  else
  (true, σ1)))
set_option maxRecDepth 100000 in
set_option maxHeartbeats 4000000 in
theorem b_X4_saysOften_0 {p : Program} {l : Launch} {e : Env} {s : State} {m : MethodId} {args : Array Value} {below : List Frame} {meth : Method} {c : Code} {D : va_G} {cs : Nat → ClassId} {ad : Nat → Nat} {nr nx : Nat} {wy : Int32} {T : Mem} {w0 : va_W} {n : Nat} {rec : Mem → Int32 → Int32 → Bool × Mem} (hrec : HSays l D cs ad nr nx n rec) {X : Bool × Mem} (S : CallFix p m c cX4_saysOften 4 s args wsX4_saysOften RX4) (hr : meth.sig.returnType = (some .boolean)) (hlocks : meth.locks = false) (hK : va_K D vwCl (gT cs) s) (hA : ∀ q, s.heap.size ≤ q → va_A w0 s.heap.size q) (σ : Mem) (i : Nat) (x2 : Int32) (hc : CInv nr nx wy T σ) (hd : dOK n (x2 + 1)) (hi : i < nr) (hf : f_X4_saysOften rec σ i x2 = X) (H : Heap) (locs : List Loc) (hG : wI D vwCl (va_A w0 s.heap.size) s.heap H locs (GW ad cs nr nx σ)) (ls : Array Slot) (hl : lv_has ls 4 [(0, .ref (ad 0)), (1, .ref (ad (200 + i))), (2, .int x2)]) : W p l e ({ frames := 2 * n + 5, cells := 0, slots := 0, locals := 46 * n + 223 } : Room) s m args below meth c H locs 0 0 (MQ below (va_Qi (fun (r : Int32) (u : Mem) => (∃ b, r = bI b ∧ (b, u) = X) ∧ CInv nr nx wy T u) (fun u t => wPost D vwCl w0 s.heap.size ((fun u => GW ad cs nr nx u) u) t) (va_A w0 s.heap.size)) args s 0 0 (va_A w0 s.heap.size)) (F0 m 0 ls []) := by
  have hinX2 := in_X4_saysOften_X2
  have hinX4 := in_X4_saysOften_X4
  unfold f_X4_saysOften at hf
  refine lv_aload_n S.1 S.2.1 dX4_saysOften_0 rfl (lv_at hl 0 rfl) ?_
  refine lv_aload_n S.1 S.2.1 dX4_saysOften_1 rfl (lv_at hl 1 rfl) ?_
  refine r_get S hK hG hinX2 (53 + i) (GW_ru _ _ _ _ _ hi) rfl 1 (by decide) (by decide +kernel) rfl dX4_saysOften_2 ?_
  refine lv_iload_n S.1 S.2.1 dX4_saysOften_5 rfl (lv_at hl 2 rfl) ?_
  refine lv_iconst (v := 1) S.1 S.2.1 dX4_saysOften_6 (by decide) ?_
  refine lv_iadd S.1 S.2.1 dX4_saysOften_7 ?_
  refine r_callVi S hK hA hG (hrec _ _ _ _ _ hc hd) (cwV 2 S.2.2.2.2 gX4_saysOften_X4_says rfl rfl rfl (by decide +kernel) ⟨by try dsimp only; omega, by try dsimp only; omega⟩) (va_recv hK hG.1 (ci := 4) (q0 := 0) rfl rfl) rfl hl.1 rfl (Nat.le_of_ble_eq_true rfl) dX4_saysOften_8 ⟨Nat.le_of_ble_eq_true rfl, Nat.le_of_ble_eq_true rfl⟩ (fun r_ σ1 H locs hw hG => ?_)
  obtain ⟨⟨b2, rfl, e_σ1⟩, hc⟩ := hw
  have hf := bnd2_p e_σ1 hf
  refine lv_istore_n (lv' := [(3, .int (bI b2)), (0, .ref (ad 0)), (1, .ref (ad (200 + i))), (2, .int x2)]) S.1 S.2.1 dX4_saysOften_11 rfl hl (by decide) rfl (fun ls hl => ?_)
  refine lv_aload_n S.1 S.2.1 dX4_saysOften_12 rfl (lv_at hl 1 rfl) ?_
  refine r_get S hK hG hinX4 0 rfl rfl 13 (by decide) (by decide +kernel) rfl dX4_saysOften_13 ?_
  refine lv_if_ne (tgt := 33) S.1 S.2.1 dX4_saysOften_16 (by decide) (fun c_16 => ?_) (fun c_16 => ?_)
  · have hf := ite_n c_16 hf
    refine lv_aload_n S.1 S.2.1 dX4_saysOften_33 rfl (lv_at hl 2 rfl) ?_
    refine r_get S hK hG hinX2 (53 + i) (GW_ru _ _ _ _ _ hi) rfl 5 (by decide) (by decide +kernel) rfl dX4_saysOften_34 ?_
    refine lv_aload_n S.1 S.2.1 dX4_saysOften_37 rfl (lv_at hl 2 rfl) ?_
    refine r_get S hK hG hinX2 (53 + i) (GW_ru _ _ _ _ _ hi) rfl 2 (by decide) (by decide +kernel) rfl dX4_saysOften_38 ?_
    refine lv_icmp_lt (tgt := 48) S.1 S.2.1 dX4_saysOften_41 (by decide) (fun c_41 => ?_) (fun c_41 => ?_)
    · have hf := ite_p c_41 hf
      refine lv_iconst (v := 0) S.1 S.2.1 dX4_saysOften_48 (by decide) ?_
      exact r_iret S hr hlocks hG _ rfl ⟨⟨false, rfl, hf⟩, hc⟩ (bI_nar false) dX4_saysOften_49
    · have hf := ite_n c_41 hf
      refine lv_iconst (v := 1) S.1 S.2.1 dX4_saysOften_44 (by decide) ?_
      refine lv_goto (tgt := 49) S.1 S.2.1 dX4_saysOften_45 (by decide) ?_
      exact r_iret S hr hlocks hG _ rfl ⟨⟨true, rfl, hf⟩, hc⟩ (bI_nar true) dX4_saysOften_49
  · have hf := ite_p c_16 hf
    refine lv_iload_n S.1 S.2.1 dX4_saysOften_19 rfl (lv_at hl 0 rfl) ?_
    refine lv_if_eq (tgt := 33) S.1 S.2.1 dX4_saysOften_20 (by decide) (fun c_20 => ?_) (fun c_20 => ?_)
    · have hf := ite_p c_20 hf
      refine lv_aload_n S.1 S.2.1 dX4_saysOften_33 rfl (lv_at hl 2 rfl) ?_
      refine r_get S hK hG hinX2 (53 + i) (GW_ru _ _ _ _ _ hi) rfl 5 (by decide) (by decide +kernel) rfl dX4_saysOften_34 ?_
      refine lv_aload_n S.1 S.2.1 dX4_saysOften_37 rfl (lv_at hl 2 rfl) ?_
      refine r_get S hK hG hinX2 (53 + i) (GW_ru _ _ _ _ _ hi) rfl 2 (by decide) (by decide +kernel) rfl dX4_saysOften_38 ?_
      refine lv_icmp_lt (tgt := 48) S.1 S.2.1 dX4_saysOften_41 (by decide) (fun c_41 => ?_) (fun c_41 => ?_)
      · have hf := ite_p c_41 hf
        refine lv_iconst (v := 0) S.1 S.2.1 dX4_saysOften_48 (by decide) ?_
        exact r_iret S hr hlocks hG _ rfl ⟨⟨false, rfl, hf⟩, hc⟩ (bI_nar false) dX4_saysOften_49
      · have hf := ite_n c_41 hf
        refine lv_iconst (v := 1) S.1 S.2.1 dX4_saysOften_44 (by decide) ?_
        refine lv_goto (tgt := 49) S.1 S.2.1 dX4_saysOften_45 (by decide) ?_
        exact r_iret S hr hlocks hG _ rfl ⟨⟨true, rfl, hf⟩, hc⟩ (bI_nar true) dX4_saysOften_49
    · have hf := ite_n c_20 hf
      refine lv_aload_n S.1 S.2.1 dX4_saysOften_23 rfl (lv_at hl 2 rfl) ?_
      refine lv_dup S.1 S.2.1 dX4_saysOften_24 rfl ?_
      refine r_get S hK hG hinX2 (53 + i) (GW_ru _ _ _ _ _ hi) rfl 5 (by decide) (by decide +kernel) rfl dX4_saysOften_25 ?_
      refine lv_iconst (v := 1) S.1 S.2.1 dX4_saysOften_28 (by decide) ?_
      refine lv_iadd S.1 S.2.1 dX4_saysOften_29 ?_
      refine C_put S hK hG hinX2 tyX2 tyX2_ok nmX2 (53 + i) (GW_ru _ _ _ _ _ hi) rfl 5 (by decide) (by decide +kernel) rfl rfl rfl (Nat.le_of_ble_eq_true rfl) (GWs_ru _ _ _ hi hc.1.2 _) dX4_saysOften_30 (fun σ3 H locs e_σ3 hG => ?_)
      have hf := bnd_p e_σ3 hf
      have hc := ci_ru hi e_σ3 hc
      refine lv_aload_n S.1 S.2.1 dX4_saysOften_33 rfl (lv_at hl 2 rfl) ?_
      refine r_get S hK hG hinX2 (53 + i) (GW_ru _ _ _ _ _ hi) rfl 5 (by decide) (by decide +kernel) rfl dX4_saysOften_34 ?_
      refine lv_aload_n S.1 S.2.1 dX4_saysOften_37 rfl (lv_at hl 2 rfl) ?_
      refine r_get S hK hG hinX2 (53 + i) (GW_ru _ _ _ _ _ hi) rfl 2 (by decide) (by decide +kernel) rfl dX4_saysOften_38 ?_
      refine lv_icmp_lt (tgt := 48) S.1 S.2.1 dX4_saysOften_41 (by decide) (fun c_41 => ?_) (fun c_41 => ?_)
      · have hf := ite_p c_41 hf
        refine lv_iconst (v := 0) S.1 S.2.1 dX4_saysOften_48 (by decide) ?_
        exact r_iret S hr hlocks hG _ rfl ⟨⟨false, rfl, hf⟩, hc⟩ (bI_nar false) dX4_saysOften_49
      · have hf := ite_n c_41 hf
        refine lv_iconst (v := 1) S.1 S.2.1 dX4_saysOften_44 (by decide) ?_
        refine lv_goto (tgt := 49) S.1 S.2.1 dX4_saysOften_45 (by decide) ?_
        exact r_iret S hr hlocks hG _ rfl ⟨⟨true, rfl, hf⟩, hc⟩ (bI_nar true) dX4_saysOften_49
theorem k_X4_saysOften (l : Launch) (D : va_G) (cs : Nat → ClassId) (ad : Nat → Nat) (nr nx : Nat) (σ : Mem) (i : Nat) (x2 : Int32) {wy : Int32} {T : Mem} {n : Nat} {rec : Mem → Int32 → Int32 → Bool × Mem} (hrec : HSays l D cs ad nr nx n rec) (hc : CInv nr nx wy T σ) (hd : dOK n (x2 + 1)) (hi : i < nr) : CMi l yX4_saysOften wsX4_saysOften ({ frames := 2 * n + 5, cells := 0, slots := 0, locals := 46 * n + 223 } : Room) D vwCl (gT cs) (GW ad cs nr nx σ) [.ref (ad 0), .ref (ad (200 + i)), .int x2] (fun (r : Int32) (u : Mem) => (∃ b, r = bI b ∧ (b, u) = (f_X4_saysOften rec σ i x2)) ∧ CInv nr nx wy T u) (fun u => GW ad cs nr nx u) :=
  r_met (by decide) rfl (Nat.le_of_ble_eq_true rfl) (fun p e s m args below meth c ls S hr hlocks _ hK hA hG hl => b_X4_saysOften_0 hrec S hr hlocks hK hA σ i x2 hc hd hi rfl _ _ hG ls hl)
theorem in_X4_saysElse_X2 : ∀ w ∈ wsX20, w ∈ wsX4_saysElse := by decide +kernel
theorem in_X4_saysElse_X4 : ∀ w ∈ wsX40, w ∈ wsX4_saysElse := by decide +kernel
def f_X4_saysElse (rec : Mem → Int32 → Int32 → Bool × Mem) (σ : Mem) (i : Nat) (x2 : Int32) : Bool × Mem :=
  bnd2 (rec σ (σ (200 + i) 1) (x2 + 1)) fun b2 σ1 =>
  (if (bI (f_X4_canBeCaught σ1)) = 0 then
  (b2, σ1)
  else
  bnd (mset σ1 0 13 0) fun σ3 =>
  bnd2 (rec σ3 (σ3 (200 + i) 2) (x2 + 1)) fun b5 σ4 =>
  (b5, σ4))
set_option maxRecDepth 100000 in
set_option maxHeartbeats 4000000 in
theorem b_X4_saysElse_0 {p : Program} {l : Launch} {e : Env} {s : State} {m : MethodId} {args : Array Value} {below : List Frame} {meth : Method} {c : Code} {D : va_G} {cs : Nat → ClassId} {ad : Nat → Nat} {nr nx : Nat} {wy : Int32} {T : Mem} {w0 : va_W} {n : Nat} {rec : Mem → Int32 → Int32 → Bool × Mem} (hrec : HSays l D cs ad nr nx n rec) {X : Bool × Mem} (S : CallFix p m c cX4_saysElse 4 s args wsX4_saysElse RX4) (hr : meth.sig.returnType = (some .boolean)) (hlocks : meth.locks = false) (hK : va_K D vwCl (gT cs) s) (hA : ∀ q, s.heap.size ≤ q → va_A w0 s.heap.size q) (σ : Mem) (i : Nat) (x2 : Int32) (hc : CInv nr nx wy T σ) (hd : dOK n (x2 + 1)) (hi : i < nr) (hf : f_X4_saysElse rec σ i x2 = X) (H : Heap) (locs : List Loc) (hG : wI D vwCl (va_A w0 s.heap.size) s.heap H locs (GW ad cs nr nx σ)) (ls : Array Slot) (hl : lv_has ls 4 [(0, .ref (ad 0)), (1, .ref (ad (200 + i))), (2, .int x2)]) : W p l e ({ frames := 2 * n + 5, cells := 0, slots := 0, locals := 46 * n + 223 } : Room) s m args below meth c H locs 0 0 (MQ below (va_Qi (fun (r : Int32) (u : Mem) => (∃ b, r = bI b ∧ (b, u) = X) ∧ CInv nr nx wy T u) (fun u t => wPost D vwCl w0 s.heap.size ((fun u => GW ad cs nr nx u) u) t) (va_A w0 s.heap.size)) args s 0 0 (va_A w0 s.heap.size)) (F0 m 0 ls []) := by
  have hinX2 := in_X4_saysElse_X2
  have hinX4 := in_X4_saysElse_X4
  unfold f_X4_saysElse at hf
  refine lv_aload_n S.1 S.2.1 dX4_saysElse_0 rfl (lv_at hl 0 rfl) ?_
  refine lv_aload_n S.1 S.2.1 dX4_saysElse_1 rfl (lv_at hl 1 rfl) ?_
  refine r_get S hK hG hinX2 (53 + i) (GW_ru _ _ _ _ _ hi) rfl 1 (by decide) (by decide +kernel) rfl dX4_saysElse_2 ?_
  refine lv_iload_n S.1 S.2.1 dX4_saysElse_5 rfl (lv_at hl 2 rfl) ?_
  refine lv_iconst (v := 1) S.1 S.2.1 dX4_saysElse_6 (by decide) ?_
  refine lv_iadd S.1 S.2.1 dX4_saysElse_7 ?_
  refine r_callVi S hK hA hG (hrec _ _ _ _ _ hc hd) (cwV 2 S.2.2.2.2 gX4_saysElse_X4_says rfl rfl rfl (by decide +kernel) ⟨by try dsimp only; omega, by try dsimp only; omega⟩) (va_recv hK hG.1 (ci := 4) (q0 := 0) rfl rfl) rfl hl.1 rfl (Nat.le_of_ble_eq_true rfl) dX4_saysElse_8 ⟨Nat.le_of_ble_eq_true rfl, Nat.le_of_ble_eq_true rfl⟩ (fun r_ σ1 H locs hw hG => ?_)
  obtain ⟨⟨b2, rfl, e_σ1⟩, hc⟩ := hw
  have hf := bnd2_p e_σ1 hf
  refine lv_istore_n (lv' := [(3, .int (bI b2)), (0, .ref (ad 0)), (1, .ref (ad (200 + i))), (2, .int x2)]) S.1 S.2.1 dX4_saysElse_11 rfl hl (by decide) rfl (fun ls hl => ?_)
  refine lv_aload_n S.1 S.2.1 dX4_saysElse_12 rfl (lv_at hl 1 rfl) ?_
  refine r_callVi S hK hA hG (k_X4_canBeCaught l _ _ _ _ _ _ hc) (cwV 0 S.2.2.2.2 gX4_saysElse_X4_canBeCaught rfl rfl rfl (by decide +kernel) ⟨by try dsimp only; omega, by try dsimp only; omega⟩) (va_recv hK hG.1 (ci := 4) (q0 := 0) rfl rfl) rfl hl.1 rfl (Nat.le_of_ble_eq_true rfl) dX4_saysElse_13 ⟨Nat.le_of_ble_eq_true rfl, Nat.le_of_ble_eq_true rfl⟩ (fun r13 _ H locs hw hG => ?_)
  obtain rfl := hw
  refine lv_if_ne (tgt := 21) S.1 S.2.1 dX4_saysElse_16 (by decide) (fun c_16 => ?_) (fun c_16 => ?_)
  · have hf := ite_n c_16 hf
    refine lv_aload_n S.1 S.2.1 dX4_saysElse_21 rfl (lv_at hl 1 rfl) ?_
    refine lv_iconst (v := 0) S.1 S.2.1 dX4_saysElse_22 (by decide) ?_
    refine C_put S hK hG hinX4 tyX4 tyX4_ok nmX4 0 rfl rfl 13 (by decide) (by decide +kernel) rfl rfl rfl (Nat.le_of_ble_eq_true rfl) (GWp_0_13 _ _ _ _ _ _) dX4_saysElse_23 (fun σ3 H locs e_σ3 hG => ?_)
    have hf := bnd_p e_σ3 hf
    have hc := ci_p0 (k := 13) (by decide) e_σ3 hc
    refine lv_aload_n S.1 S.2.1 dX4_saysElse_26 rfl (lv_at hl 1 rfl) ?_
    refine lv_aload_n S.1 S.2.1 dX4_saysElse_27 rfl (lv_at hl 2 rfl) ?_
    refine r_get S hK hG hinX2 (53 + i) (GW_ru _ _ _ _ _ hi) rfl 2 (by decide) (by decide +kernel) rfl dX4_saysElse_28 ?_
    refine lv_iload_n S.1 S.2.1 dX4_saysElse_31 rfl (lv_at hl 3 rfl) ?_
    refine lv_iconst (v := 1) S.1 S.2.1 dX4_saysElse_32 (by decide) ?_
    refine lv_iadd S.1 S.2.1 dX4_saysElse_33 ?_
    refine r_callVi S hK hA hG (hrec _ _ _ _ _ hc hd) (cwV 2 S.2.2.2.2 gX4_saysElse_X4_says rfl rfl rfl (by decide +kernel) ⟨by try dsimp only; omega, by try dsimp only; omega⟩) (va_recv hK hG.1 (ci := 4) (q0 := 0) rfl rfl) rfl hl.1 rfl (Nat.le_of_ble_eq_true rfl) dX4_saysElse_34 ⟨Nat.le_of_ble_eq_true rfl, Nat.le_of_ble_eq_true rfl⟩ (fun r_ σ4 H locs hw hG => ?_)
    obtain ⟨⟨b5, rfl, e_σ4⟩, hc⟩ := hw
    have hf := bnd2_p e_σ4 hf
    exact r_iret S hr hlocks hG _ rfl ⟨⟨b5, rfl, hf⟩, hc⟩ (bI_nar b5) dX4_saysElse_37
  · have hf := ite_p c_16 hf
    refine lv_iload_n S.1 S.2.1 dX4_saysElse_19 rfl (lv_at hl 0 rfl) ?_
    exact r_iret S hr hlocks hG _ rfl ⟨⟨b2, rfl, hf⟩, hc⟩ (bI_nar b2) dX4_saysElse_20
theorem k_X4_saysElse (l : Launch) (D : va_G) (cs : Nat → ClassId) (ad : Nat → Nat) (nr nx : Nat) (σ : Mem) (i : Nat) (x2 : Int32) {wy : Int32} {T : Mem} {n : Nat} {rec : Mem → Int32 → Int32 → Bool × Mem} (hrec : HSays l D cs ad nr nx n rec) (hc : CInv nr nx wy T σ) (hd : dOK n (x2 + 1)) (hi : i < nr) : CMi l yX4_saysElse wsX4_saysElse ({ frames := 2 * n + 5, cells := 0, slots := 0, locals := 46 * n + 223 } : Room) D vwCl (gT cs) (GW ad cs nr nx σ) [.ref (ad 0), .ref (ad (200 + i)), .int x2] (fun (r : Int32) (u : Mem) => (∃ b, r = bI b ∧ (b, u) = (f_X4_saysElse rec σ i x2)) ∧ CInv nr nx wy T u) (fun u => GW ad cs nr nx u) :=
  r_met (by decide) rfl (Nat.le_of_ble_eq_true rfl) (fun p e s m args below meth c ls S hr hlocks _ hK hA hG hl => b_X4_saysElse_0 hrec S hr hlocks hK hA σ i x2 hc hd hi rfl _ _ hG ls hl)
theorem in_X4_says_X2 : ∀ w ∈ wsX20, w ∈ wsX4_says := by decide +kernel
theorem in_X4_says_X4 : ∀ w ∈ wsX40, w ∈ wsX4_says := by decide +kernel
def f_X4_says : Nat → Mem → Int32 → Int32 → Bool × Mem
  | 0, σ, _, _ => (false, σ)
  | n + 1, σ, x1, x2 =>
  bnd2 (f_X4_begins σ) fun b2 σ1 =>
  (if (bI b2) = 0 then
  (false, σ1)
  else
  (optE (f_X4_ruleAt σ1 x1) (bnd (mset σ1 0 13 4) fun σ3 =>
  (false, σ3)) fun i_11 =>
  (if x2 < 40 then
  (if (σ1 (200 + i_11) 0) = 0 then
  (if (f_X4_reading σ1 (σ1 (200 + i_11) 1)) ≤ (σ1 (200 + i_11) 2) then
  (false, σ1)
  else
  (true, σ1))
  else
  (if (σ1 (200 + i_11) 0) = 1 then
  (if 0 < (lg_cmp (if 0 < (((f_X4_reading σ1 (σ1 (200 + i_11) 1)).toInt64) - ((σ1 (200 + i_11) 2).toInt64)) then (((f_X4_reading σ1 (σ1 (200 + i_11) 1)).toInt64) - ((σ1 (200 + i_11) 2).toInt64)) else -(((f_X4_reading σ1 (σ1 (200 + i_11) 1)).toInt64) - ((σ1 (200 + i_11) 2).toInt64))) ((σ1 (200 + i_11) 3).toInt64)) then
  (false, σ1)
  else
  (true, σ1))
  else
  (if (σ1 (200 + i_11) 0) = 2 then
  (if (f_X4_reading σ1 (σ1 (200 + i_11) 1)) = (σ1 (200 + i_11) 4) then
  (false, σ1)
  else
  (true, σ1))
  else
  (if (σ1 (200 + i_11) 0) = 3 then
  bnd2 (f_X4_saysShare σ1 i_11) fun b5 σ4 =>
  (b5, σ4)
  else
  (if (σ1 (200 + i_11) 0) = 4 then
  bnd2 (f_X4_saysPointed σ1 i_11) fun b7 σ6 =>
  (b7, σ6)
  else
  (if (σ1 (200 + i_11) 0) = 5 then
  bnd2 (f_X4_says n σ1 (σ1 (200 + i_11) 1) (x2 + 1)) fun b9 σ8 =>
  (if (bI b9) = 0 then
  (true, σ8)
  else
  (false, σ8))
  else
  (if (σ1 (200 + i_11) 0) = 6 then
  bnd2 (f_X4_saysBoth (f_X4_says n) σ1 i_11 x2) fun b11 σ10 =>
  (b11, σ10)
  else
  (if (σ1 (200 + i_11) 0) = 7 then
  bnd2 (f_X4_saysEither (f_X4_says n) σ1 i_11 x2) fun b13 σ12 =>
  (b13, σ12)
  else
  (if (σ1 (200 + i_11) 0) = 8 then
  bnd2 (f_X4_saysOften (f_X4_says n) σ1 i_11 x2) fun b15 σ14 =>
  (b15, σ14)
  else
  bnd2 (f_X4_saysElse (f_X4_says n) σ1 i_11 x2) fun b17 σ16 =>
  (b17, σ16))))))))))
  else
  bnd (mset σ1 0 13 4) fun σ18 =>
  (false, σ18))))
set_option maxRecDepth 100000 in
set_option maxHeartbeats 4000000 in
theorem b_X4_says_0 {p : Program} {l : Launch} {e : Env} {s : State} {m : MethodId} {args : Array Value} {below : List Frame} {meth : Method} {c : Code} {D : va_G} {cs : Nat → ClassId} {ad : Nat → Nat} {nr nx : Nat} {wy : Int32} {T : Mem} {w0 : va_W} {n : Nat} (hrec : HSays l D cs ad nr nx n (f_X4_says n)) {X : Bool × Mem} (S : CallFix p m c cX4_says 4 s args wsX4_says RX4) (hr : meth.sig.returnType = (some .boolean)) (hlocks : meth.locks = false) (hK : va_K D vwCl (gT cs) s) (hA : ∀ q, s.heap.size ≤ q → va_A w0 s.heap.size q) (σ : Mem) (x1 : Int32) (x2 : Int32) (hc : CInv nr nx wy T σ) (hd : dOK (n + 1) x2) (hf : f_X4_says (n + 1) σ x1 x2 = X) (H : Heap) (locs : List Loc) (hG : wI D vwCl (va_A w0 s.heap.size) s.heap H locs (GW ad cs nr nx σ)) (ls : Array Slot) (hl : lv_has ls 4 [(0, .ref (ad 0)), (1, .int x1), (2, .int x2)]) : W p l e ({ frames := 2 * (n + 1) + 4, cells := 0, slots := 0, locals := 46 * (n + 1) + 200 } : Room) s m args below meth c H locs 0 0 (MQ below (va_Qi (fun (r : Int32) (u : Mem) => (∃ b, r = bI b ∧ (b, u) = X) ∧ CInv nr nx wy T u) (fun u t => wPost D vwCl w0 s.heap.size ((fun u => GW ad cs nr nx u) u) t) (va_A w0 s.heap.size)) args s 0 0 (va_A w0 s.heap.size)) (F0 m 0 ls []) := by
  have hinX2 := in_X4_says_X2
  have hinX4 := in_X4_says_X4
  unfold f_X4_says at hf
  refine lv_aload_n S.1 S.2.1 dX4_says_0 rfl (lv_at hl 0 rfl) ?_
  refine r_callVi S hK hA hG (k_X4_begins l _ _ _ _ _ _ hc) (cwV 0 S.2.2.2.2 gX4_says_X4_begins rfl rfl rfl (by decide +kernel) ⟨by try dsimp only; omega, by try dsimp only; omega⟩) (va_recv hK hG.1 (ci := 4) (q0 := 0) rfl rfl) rfl hl.1 rfl (Nat.le_of_ble_eq_true rfl) dX4_says_1 ⟨Nat.le_of_ble_eq_true rfl, Nat.le_of_ble_eq_true rfl⟩ (fun r_ σ1 H locs hw hG => ?_)
  obtain ⟨⟨b2, rfl, e_σ1⟩, hc⟩ := hw
  have hf := bnd2_p e_σ1 hf
  refine lv_if_ne (tgt := 9) S.1 S.2.1 dX4_says_4 (by decide) (fun c_4 => ?_) (fun c_4 => ?_)
  · have hf := ite_n c_4 hf
    refine lv_aload_n S.1 S.2.1 dX4_says_9 rfl (lv_at hl 0 rfl) ?_
    refine lv_iload_n S.1 S.2.1 dX4_says_10 rfl (lv_at hl 1 rfl) ?_
    refine r_callVq S hK hA hG (k_X4_ruleAt l _ _ _ _ _ _ _ hc) (cwV 1 S.2.2.2.2 gX4_says_X4_ruleAt rfl rfl rfl (by decide +kernel) ⟨by try dsimp only; omega, by try dsimp only; omega⟩) (va_recv hK hG.1 (ci := 4) (q0 := 0) rfl rfl) rfl hl.1 rfl (Nat.le_of_ble_eq_true rfl) dX4_says_11 ⟨Nat.le_of_ble_eq_true rfl, Nat.le_of_ble_eq_true rfl⟩ (fun r11 _ H locs hw hG => ?_)
    obtain rfl := hw
    refine C_opt (fun ho_11 => ?_) (fun i_11 ho_11 => ?_)
    · have hf := opt_n ho_11 hf
      refine lv_astore_nN (lv' := [(3, .null), (0, .ref (ad 0)), (1, .int x1), (2, .int x2)]) S.1 S.2.1 dX4_says_14 rfl hl (by decide) rfl (fun ls hl => ?_)
      refine lv_aload_nN S.1 S.2.1 dX4_says_15 rfl (lv_at hl 0 rfl) ?_
      refine lv_ifnullN (tgt := 25) S.1 S.2.1 dX4_says_16 (by decide) ?_
      refine lv_aload_n S.1 S.2.1 dX4_says_25 rfl (lv_at hl 1 rfl) ?_
      refine lv_iconst (v := 4) S.1 S.2.1 dX4_says_26 (by decide) ?_
      refine C_put S hK hG hinX4 tyX4 tyX4_ok nmX4 0 rfl rfl 13 (by decide) (by decide +kernel) rfl rfl rfl (Nat.le_of_ble_eq_true rfl) (GWp_0_13 _ _ _ _ _ _) dX4_says_27 (fun σ3 H locs e_σ3 hG => ?_)
      have hf := bnd_p e_σ3 hf
      have hc := ci_p0 (k := 13) (by decide) e_σ3 hc
      refine lv_iconst (v := 0) S.1 S.2.1 dX4_says_30 (by decide) ?_
      exact r_iret S hr hlocks hG _ rfl ⟨⟨false, rfl, hf⟩, hc⟩ (bI_nar false) dX4_says_31
    · have hf := opt_s ho_11 hf
      have hi_11 : i_11 < nr := ra_lt ho_11 hc
      refine lv_astore_n (lv' := [(3, .ref (ad (200 + i_11))), (0, .ref (ad 0)), (1, .int x1), (2, .int x2)]) S.1 S.2.1 dX4_says_14 rfl hl (by decide) rfl (fun ls hl => ?_)
      refine lv_aload_n S.1 S.2.1 dX4_says_15 rfl (lv_at hl 0 rfl) ?_
      refine lv_ifnull S.1 S.2.1 dX4_says_16 ?_
      refine lv_iload_n S.1 S.2.1 dX4_says_19 rfl (lv_at hl 3 rfl) ?_
      refine lv_bipush (v := 40) S.1 S.2.1 dX4_says_20 (by decide) ?_
      refine lv_icmp_lt (tgt := 32) S.1 S.2.1 dX4_says_22 (by decide) (fun c_22 => ?_) (fun c_22 => ?_)
      · have hf := ite_p c_22 hf
        refine lv_aload_n S.1 S.2.1 dX4_says_32 rfl (lv_at hl 0 rfl) ?_
        refine r_get S hK hG hinX2 (53 + i_11) (GW_ru _ _ _ _ _ hi_11) rfl 0 (by decide) (by decide +kernel) rfl dX4_says_33 ?_
        refine (Decidable.em ((σ1 (200 + i_11) 0) = 0)).elim (fun c_36_0 => ?_) (fun c_36_0 => ?_)
        · have hf := ite_p c_36_0 hf
          refine lv_tableIn (off := 52) (tgt := 88) S.1 S.2.1 dX4_says_36 (by rw [c_36_0]; decide) (by rw [c_36_0]; decide) (by rw [c_36_0]; rfl) (by decide) ?_
          refine lv_aload_n S.1 S.2.1 dX4_says_88 rfl (lv_at hl 1 rfl) ?_
          refine lv_aload_n S.1 S.2.1 dX4_says_89 rfl (lv_at hl 0 rfl) ?_
          refine r_get S hK hG hinX2 (53 + i_11) (GW_ru _ _ _ _ _ hi_11) rfl 1 (by decide) (by decide +kernel) rfl dX4_says_90 ?_
          refine r_callVi S hK hA hG (k_X4_reading l _ _ _ _ _ _ _ hc) (cwV 1 S.2.2.2.2 gX4_says_X4_reading rfl rfl rfl (by decide +kernel) ⟨by try dsimp only; omega, by try dsimp only; omega⟩) (va_recv hK hG.1 (ci := 4) (q0 := 0) rfl rfl) rfl hl.1 rfl (Nat.le_of_ble_eq_true rfl) dX4_says_93 ⟨Nat.le_of_ble_eq_true rfl, Nat.le_of_ble_eq_true rfl⟩ (fun r93 _ H locs hw hG => ?_)
          obtain rfl := hw
          refine lv_aload_n S.1 S.2.1 dX4_says_96 rfl (lv_at hl 0 rfl) ?_
          refine r_get S hK hG hinX2 (53 + i_11) (GW_ru _ _ _ _ _ hi_11) rfl 2 (by decide) (by decide +kernel) rfl dX4_says_97 ?_
          refine lv_icmp_le (tgt := 107) S.1 S.2.1 dX4_says_100 (by decide) (fun c_100 => ?_) (fun c_100 => ?_)
          · have hf := ite_p c_100 hf
            refine lv_iconst (v := 0) S.1 S.2.1 dX4_says_107 (by decide) ?_
            exact r_iret S hr hlocks hG _ rfl ⟨⟨false, rfl, hf⟩, hc⟩ (bI_nar false) dX4_says_108
          · have hf := ite_n c_100 hf
            refine lv_iconst (v := 1) S.1 S.2.1 dX4_says_103 (by decide) ?_
            refine lv_goto (tgt := 108) S.1 S.2.1 dX4_says_104 (by decide) ?_
            exact r_iret S hr hlocks hG _ rfl ⟨⟨true, rfl, hf⟩, hc⟩ (bI_nar true) dX4_says_108
        have hf := ite_n c_36_0 hf
        refine (Decidable.em ((σ1 (200 + i_11) 0) = 1)).elim (fun c_36_1 => ?_) (fun c_36_1 => ?_)
        · have hf := ite_p c_36_1 hf
          refine lv_tableIn (off := 73) (tgt := 109) S.1 S.2.1 dX4_says_36 (by rw [c_36_1]; decide) (by rw [c_36_1]; decide) (by rw [c_36_1]; rfl) (by decide) ?_
          refine lv_aload_n S.1 S.2.1 dX4_says_109 rfl (lv_at hl 1 rfl) ?_
          refine lv_aload_n S.1 S.2.1 dX4_says_110 rfl (lv_at hl 0 rfl) ?_
          refine r_get S hK hG hinX2 (53 + i_11) (GW_ru _ _ _ _ _ hi_11) rfl 1 (by decide) (by decide +kernel) rfl dX4_says_111 ?_
          refine r_callVi S hK hA hG (k_X4_reading l _ _ _ _ _ _ _ hc) (cwV 1 S.2.2.2.2 gX4_says_X4_reading rfl rfl rfl (by decide +kernel) ⟨by try dsimp only; omega, by try dsimp only; omega⟩) (va_recv hK hG.1 (ci := 4) (q0 := 0) rfl rfl) rfl hl.1 rfl (Nat.le_of_ble_eq_true rfl) dX4_says_114 ⟨Nat.le_of_ble_eq_true rfl, Nat.le_of_ble_eq_true rfl⟩ (fun r114 _ H locs hw hG => ?_)
          obtain rfl := hw
          refine lv_i2l S.1 S.2.1 dX4_says_117 rfl ?_
          refine lv_aload_n S.1 S.2.1 dX4_says_118 rfl (lv_at hl 0 rfl) ?_
          refine r_get S hK hG hinX2 (53 + i_11) (GW_ru _ _ _ _ _ hi_11) rfl 2 (by decide) (by decide +kernel) rfl dX4_says_119 ?_
          refine lv_i2l S.1 S.2.1 dX4_says_122 rfl ?_
          refine lv_lsub S.1 S.2.1 dX4_says_123 ?_
          refine va_mabs_long S.1 S.2.1 (S.2.2.1.trans hl.1.symm) S.2.2.2.1 (S.2.2.2.2 (.methodLink RX4 173 Lib.MathLoose.abs_long.x) (by decide +kernel)) (S.2.2.2.2 (.static Lib.MathLoose.abs_long.x) (by decide +kernel)) (S.2.2.2.2 (.initialized "java/lang/Math") (by decide +kernel)) (S.2.2.2.2 (.code Lib.MathLoose.abs_long.x Lib.MathLoose.abs_long.code 2 (some .long)) (by decide +kernel)) (by try dsimp only; omega) (by show 0 + 13 ≤ _; try dsimp only; omega) (Nat.le_of_ble_eq_true rfl) (Nat.le_of_ble_eq_true rfl) dX4_says_124 ?_
          refine lv_aload_n S.1 S.2.1 dX4_says_127 rfl (lv_at hl 0 rfl) ?_
          refine r_get S hK hG hinX2 (53 + i_11) (GW_ru _ _ _ _ _ hi_11) rfl 3 (by decide) (by decide +kernel) rfl dX4_says_128 ?_
          refine lv_i2l S.1 S.2.1 dX4_says_131 rfl ?_
          refine W.lcmp S.1 S.2.1 dX4_says_132 ?_
          refine lv_if_gt (tgt := 140) S.1 S.2.1 dX4_says_133 (by decide) (fun c_133 => ?_) (fun c_133 => ?_)
          · have hf := ite_p c_133 hf
            refine lv_iconst (v := 0) S.1 S.2.1 dX4_says_140 (by decide) ?_
            exact r_iret S hr hlocks hG _ rfl ⟨⟨false, rfl, hf⟩, hc⟩ (bI_nar false) dX4_says_141
          · have hf := ite_n c_133 hf
            refine lv_iconst (v := 1) S.1 S.2.1 dX4_says_136 (by decide) ?_
            refine lv_goto (tgt := 141) S.1 S.2.1 dX4_says_137 (by decide) ?_
            exact r_iret S hr hlocks hG _ rfl ⟨⟨true, rfl, hf⟩, hc⟩ (bI_nar true) dX4_says_141
        have hf := ite_n c_36_1 hf
        refine (Decidable.em ((σ1 (200 + i_11) 0) = 2)).elim (fun c_36_2 => ?_) (fun c_36_2 => ?_)
        · have hf := ite_p c_36_2 hf
          refine lv_tableIn (off := 106) (tgt := 142) S.1 S.2.1 dX4_says_36 (by rw [c_36_2]; decide) (by rw [c_36_2]; decide) (by rw [c_36_2]; rfl) (by decide) ?_
          refine lv_aload_n S.1 S.2.1 dX4_says_142 rfl (lv_at hl 1 rfl) ?_
          refine lv_aload_n S.1 S.2.1 dX4_says_143 rfl (lv_at hl 0 rfl) ?_
          refine r_get S hK hG hinX2 (53 + i_11) (GW_ru _ _ _ _ _ hi_11) rfl 1 (by decide) (by decide +kernel) rfl dX4_says_144 ?_
          refine r_callVi S hK hA hG (k_X4_reading l _ _ _ _ _ _ _ hc) (cwV 1 S.2.2.2.2 gX4_says_X4_reading rfl rfl rfl (by decide +kernel) ⟨by try dsimp only; omega, by try dsimp only; omega⟩) (va_recv hK hG.1 (ci := 4) (q0 := 0) rfl rfl) rfl hl.1 rfl (Nat.le_of_ble_eq_true rfl) dX4_says_147 ⟨Nat.le_of_ble_eq_true rfl, Nat.le_of_ble_eq_true rfl⟩ (fun r147 _ H locs hw hG => ?_)
          obtain rfl := hw
          refine lv_aload_n S.1 S.2.1 dX4_says_150 rfl (lv_at hl 0 rfl) ?_
          refine r_get S hK hG hinX2 (53 + i_11) (GW_ru _ _ _ _ _ hi_11) rfl 4 (by decide) (by decide +kernel) rfl dX4_says_151 ?_
          refine lv_icmp_eq (tgt := 161) S.1 S.2.1 dX4_says_154 (by decide) (fun c_154 => ?_) (fun c_154 => ?_)
          · have hf := ite_p c_154 hf
            refine lv_iconst (v := 0) S.1 S.2.1 dX4_says_161 (by decide) ?_
            exact r_iret S hr hlocks hG _ rfl ⟨⟨false, rfl, hf⟩, hc⟩ (bI_nar false) dX4_says_162
          · have hf := ite_n c_154 hf
            refine lv_iconst (v := 1) S.1 S.2.1 dX4_says_157 (by decide) ?_
            refine lv_goto (tgt := 162) S.1 S.2.1 dX4_says_158 (by decide) ?_
            exact r_iret S hr hlocks hG _ rfl ⟨⟨true, rfl, hf⟩, hc⟩ (bI_nar true) dX4_says_162
        have hf := ite_n c_36_2 hf
        refine (Decidable.em ((σ1 (200 + i_11) 0) = 3)).elim (fun c_36_3 => ?_) (fun c_36_3 => ?_)
        · have hf := ite_p c_36_3 hf
          refine lv_tableIn (off := 127) (tgt := 163) S.1 S.2.1 dX4_says_36 (by rw [c_36_3]; decide) (by rw [c_36_3]; decide) (by rw [c_36_3]; rfl) (by decide) ?_
          refine lv_aload_n S.1 S.2.1 dX4_says_163 rfl (lv_at hl 1 rfl) ?_
          refine lv_aload_n S.1 S.2.1 dX4_says_164 rfl (lv_at hl 0 rfl) ?_
          refine r_callVi S hK hA hG (k_X4_saysShare l _ _ _ _ _ _ _ hc hi_11) (cwV 1 S.2.2.2.2 gX4_says_X4_saysShare rfl rfl rfl (by decide +kernel) ⟨by try dsimp only; omega, by try dsimp only; omega⟩) (va_recv hK hG.1 (ci := 4) (q0 := 0) rfl rfl) rfl hl.1 rfl (Nat.le_of_ble_eq_true rfl) dX4_says_165 ⟨Nat.le_of_ble_eq_true rfl, Nat.le_of_ble_eq_true rfl⟩ (fun r_ σ4 H locs hw hG => ?_)
          obtain ⟨⟨b5, rfl, e_σ4⟩, hc⟩ := hw
          have hf := bnd2_p e_σ4 hf
          exact r_iret S hr hlocks hG _ rfl ⟨⟨b5, rfl, hf⟩, hc⟩ (bI_nar b5) dX4_says_168
        have hf := ite_n c_36_3 hf
        refine (Decidable.em ((σ1 (200 + i_11) 0) = 4)).elim (fun c_36_4 => ?_) (fun c_36_4 => ?_)
        · have hf := ite_p c_36_4 hf
          refine lv_tableIn (off := 133) (tgt := 169) S.1 S.2.1 dX4_says_36 (by rw [c_36_4]; decide) (by rw [c_36_4]; decide) (by rw [c_36_4]; rfl) (by decide) ?_
          refine lv_aload_n S.1 S.2.1 dX4_says_169 rfl (lv_at hl 1 rfl) ?_
          refine lv_aload_n S.1 S.2.1 dX4_says_170 rfl (lv_at hl 0 rfl) ?_
          refine r_callVi S hK hA hG (k_X4_saysPointed l _ _ _ _ _ _ _ hc hi_11) (cwV 1 S.2.2.2.2 gX4_says_X4_saysPointed rfl rfl rfl (by decide +kernel) ⟨by try dsimp only; omega, by try dsimp only; omega⟩) (va_recv hK hG.1 (ci := 4) (q0 := 0) rfl rfl) rfl hl.1 rfl (Nat.le_of_ble_eq_true rfl) dX4_says_171 ⟨Nat.le_of_ble_eq_true rfl, Nat.le_of_ble_eq_true rfl⟩ (fun r_ σ6 H locs hw hG => ?_)
          obtain ⟨⟨b7, rfl, e_σ6⟩, hc⟩ := hw
          have hf := bnd2_p e_σ6 hf
          exact r_iret S hr hlocks hG _ rfl ⟨⟨b7, rfl, hf⟩, hc⟩ (bI_nar b7) dX4_says_174
        have hf := ite_n c_36_4 hf
        refine (Decidable.em ((σ1 (200 + i_11) 0) = 5)).elim (fun c_36_5 => ?_) (fun c_36_5 => ?_)
        · have hf := ite_p c_36_5 hf
          refine lv_tableIn (off := 139) (tgt := 175) S.1 S.2.1 dX4_says_36 (by rw [c_36_5]; decide) (by rw [c_36_5]; decide) (by rw [c_36_5]; rfl) (by decide) ?_
          refine lv_aload_n S.1 S.2.1 dX4_says_175 rfl (lv_at hl 1 rfl) ?_
          refine lv_aload_n S.1 S.2.1 dX4_says_176 rfl (lv_at hl 0 rfl) ?_
          refine r_get S hK hG hinX2 (53 + i_11) (GW_ru _ _ _ _ _ hi_11) rfl 1 (by decide) (by decide +kernel) rfl dX4_says_177 ?_
          refine lv_iload_n S.1 S.2.1 dX4_says_180 rfl (lv_at hl 3 rfl) ?_
          refine lv_iconst (v := 1) S.1 S.2.1 dX4_says_181 (by decide) ?_
          refine lv_iadd S.1 S.2.1 dX4_says_182 ?_
          refine r_callVi S hK hA hG (hrec _ _ _ _ _ hc (dOK_s hd c_22)) (cwV 2 S.2.2.2.2 gX4_says_X4_says rfl rfl rfl (by decide +kernel) ⟨by try dsimp only; omega, by try dsimp only; omega⟩) (va_recv hK hG.1 (ci := 4) (q0 := 0) rfl rfl) rfl hl.1 rfl (Nat.le_of_ble_eq_true rfl) dX4_says_183 ⟨Nat.le_of_ble_eq_true rfl, Nat.le_of_ble_eq_true rfl⟩ (fun r_ σ8 H locs hw hG => ?_)
          obtain ⟨⟨b9, rfl, e_σ8⟩, hc⟩ := hw
          have hf := bnd2_p e_σ8 hf
          refine lv_if_ne (tgt := 193) S.1 S.2.1 dX4_says_186 (by decide) (fun c_186 => ?_) (fun c_186 => ?_)
          · have hf := ite_n c_186 hf
            refine lv_iconst (v := 0) S.1 S.2.1 dX4_says_193 (by decide) ?_
            exact r_iret S hr hlocks hG _ rfl ⟨⟨false, rfl, hf⟩, hc⟩ (bI_nar false) dX4_says_194
          · have hf := ite_p c_186 hf
            refine lv_iconst (v := 1) S.1 S.2.1 dX4_says_189 (by decide) ?_
            refine lv_goto (tgt := 194) S.1 S.2.1 dX4_says_190 (by decide) ?_
            exact r_iret S hr hlocks hG _ rfl ⟨⟨true, rfl, hf⟩, hc⟩ (bI_nar true) dX4_says_194
        have hf := ite_n c_36_5 hf
        refine (Decidable.em ((σ1 (200 + i_11) 0) = 6)).elim (fun c_36_6 => ?_) (fun c_36_6 => ?_)
        · have hf := ite_p c_36_6 hf
          refine lv_tableIn (off := 159) (tgt := 195) S.1 S.2.1 dX4_says_36 (by rw [c_36_6]; decide) (by rw [c_36_6]; decide) (by rw [c_36_6]; rfl) (by decide) ?_
          refine lv_aload_n S.1 S.2.1 dX4_says_195 rfl (lv_at hl 1 rfl) ?_
          refine lv_aload_n S.1 S.2.1 dX4_says_196 rfl (lv_at hl 0 rfl) ?_
          refine lv_iload_n S.1 S.2.1 dX4_says_197 rfl (lv_at hl 3 rfl) ?_
          refine r_callVi S hK hA hG (k_X4_saysBoth l _ _ _ _ _ _ _ _ hrec hc (dOK_s hd c_22) hi_11) (cwV 2 S.2.2.2.2 gX4_says_X4_saysBoth rfl rfl rfl (by decide +kernel) ⟨by try dsimp only; omega, by try dsimp only; omega⟩) (va_recv hK hG.1 (ci := 4) (q0 := 0) rfl rfl) rfl hl.1 rfl (Nat.le_of_ble_eq_true rfl) dX4_says_198 ⟨Nat.le_of_ble_eq_true rfl, Nat.le_of_ble_eq_true rfl⟩ (fun r_ σ10 H locs hw hG => ?_)
          obtain ⟨⟨b11, rfl, e_σ10⟩, hc⟩ := hw
          have hf := bnd2_p e_σ10 hf
          exact r_iret S hr hlocks hG _ rfl ⟨⟨b11, rfl, hf⟩, hc⟩ (bI_nar b11) dX4_says_201
        have hf := ite_n c_36_6 hf
        refine (Decidable.em ((σ1 (200 + i_11) 0) = 7)).elim (fun c_36_7 => ?_) (fun c_36_7 => ?_)
        · have hf := ite_p c_36_7 hf
          refine lv_tableIn (off := 166) (tgt := 202) S.1 S.2.1 dX4_says_36 (by rw [c_36_7]; decide) (by rw [c_36_7]; decide) (by rw [c_36_7]; rfl) (by decide) ?_
          refine lv_aload_n S.1 S.2.1 dX4_says_202 rfl (lv_at hl 1 rfl) ?_
          refine lv_aload_n S.1 S.2.1 dX4_says_203 rfl (lv_at hl 0 rfl) ?_
          refine lv_iload_n S.1 S.2.1 dX4_says_204 rfl (lv_at hl 3 rfl) ?_
          refine r_callVi S hK hA hG (k_X4_saysEither l _ _ _ _ _ _ _ _ hrec hc (dOK_s hd c_22) hi_11) (cwV 2 S.2.2.2.2 gX4_says_X4_saysEither rfl rfl rfl (by decide +kernel) ⟨by try dsimp only; omega, by try dsimp only; omega⟩) (va_recv hK hG.1 (ci := 4) (q0 := 0) rfl rfl) rfl hl.1 rfl (Nat.le_of_ble_eq_true rfl) dX4_says_205 ⟨Nat.le_of_ble_eq_true rfl, Nat.le_of_ble_eq_true rfl⟩ (fun r_ σ12 H locs hw hG => ?_)
          obtain ⟨⟨b13, rfl, e_σ12⟩, hc⟩ := hw
          have hf := bnd2_p e_σ12 hf
          exact r_iret S hr hlocks hG _ rfl ⟨⟨b13, rfl, hf⟩, hc⟩ (bI_nar b13) dX4_says_208
        have hf := ite_n c_36_7 hf
        refine (Decidable.em ((σ1 (200 + i_11) 0) = 8)).elim (fun c_36_8 => ?_) (fun c_36_8 => ?_)
        · have hf := ite_p c_36_8 hf
          refine lv_tableIn (off := 173) (tgt := 209) S.1 S.2.1 dX4_says_36 (by rw [c_36_8]; decide) (by rw [c_36_8]; decide) (by rw [c_36_8]; rfl) (by decide) ?_
          refine lv_aload_n S.1 S.2.1 dX4_says_209 rfl (lv_at hl 1 rfl) ?_
          refine lv_aload_n S.1 S.2.1 dX4_says_210 rfl (lv_at hl 0 rfl) ?_
          refine lv_iload_n S.1 S.2.1 dX4_says_211 rfl (lv_at hl 3 rfl) ?_
          refine r_callVi S hK hA hG (k_X4_saysOften l _ _ _ _ _ _ _ _ hrec hc (dOK_s hd c_22) hi_11) (cwV 2 S.2.2.2.2 gX4_says_X4_saysOften rfl rfl rfl (by decide +kernel) ⟨by try dsimp only; omega, by try dsimp only; omega⟩) (va_recv hK hG.1 (ci := 4) (q0 := 0) rfl rfl) rfl hl.1 rfl (Nat.le_of_ble_eq_true rfl) dX4_says_212 ⟨Nat.le_of_ble_eq_true rfl, Nat.le_of_ble_eq_true rfl⟩ (fun r_ σ14 H locs hw hG => ?_)
          obtain ⟨⟨b15, rfl, e_σ14⟩, hc⟩ := hw
          have hf := bnd2_p e_σ14 hf
          exact r_iret S hr hlocks hG _ rfl ⟨⟨b15, rfl, hf⟩, hc⟩ (bI_nar b15) dX4_says_215
        have hf := ite_n c_36_8 hf
        refine lv_tableOut (tgt := 216) S.1 S.2.1 dX4_says_36 (by have h0 := sw_ne (z := 0) rfl c_36_0; have h1 := sw_ne (z := 1) rfl c_36_1; have h2 := sw_ne (z := 2) rfl c_36_2; have h3 := sw_ne (z := 3) rfl c_36_3; have h4 := sw_ne (z := 4) rfl c_36_4; have h5 := sw_ne (z := 5) rfl c_36_5; have h6 := sw_ne (z := 6) rfl c_36_6; have h7 := sw_ne (z := 7) rfl c_36_7; have h8 := sw_ne (z := 8) rfl c_36_8; omega) (by decide) ?_
        refine lv_aload_n S.1 S.2.1 dX4_says_216 rfl (lv_at hl 1 rfl) ?_
        refine lv_aload_n S.1 S.2.1 dX4_says_217 rfl (lv_at hl 0 rfl) ?_
        refine lv_iload_n S.1 S.2.1 dX4_says_218 rfl (lv_at hl 3 rfl) ?_
        refine r_callVi S hK hA hG (k_X4_saysElse l _ _ _ _ _ _ _ _ hrec hc (dOK_s hd c_22) hi_11) (cwV 2 S.2.2.2.2 gX4_says_X4_saysElse rfl rfl rfl (by decide +kernel) ⟨by try dsimp only; omega, by try dsimp only; omega⟩) (va_recv hK hG.1 (ci := 4) (q0 := 0) rfl rfl) rfl hl.1 rfl (Nat.le_of_ble_eq_true rfl) dX4_says_219 ⟨Nat.le_of_ble_eq_true rfl, Nat.le_of_ble_eq_true rfl⟩ (fun r_ σ16 H locs hw hG => ?_)
        obtain ⟨⟨b17, rfl, e_σ16⟩, hc⟩ := hw
        have hf := bnd2_p e_σ16 hf
        exact r_iret S hr hlocks hG _ rfl ⟨⟨b17, rfl, hf⟩, hc⟩ (bI_nar b17) dX4_says_222
      · have hf := ite_n c_22 hf
        refine lv_aload_n S.1 S.2.1 dX4_says_25 rfl (lv_at hl 1 rfl) ?_
        refine lv_iconst (v := 4) S.1 S.2.1 dX4_says_26 (by decide) ?_
        refine C_put S hK hG hinX4 tyX4 tyX4_ok nmX4 0 rfl rfl 13 (by decide) (by decide +kernel) rfl rfl rfl (Nat.le_of_ble_eq_true rfl) (GWp_0_13 _ _ _ _ _ _) dX4_says_27 (fun σ18 H locs e_σ18 hG => ?_)
        have hf := bnd_p e_σ18 hf
        have hc := ci_p0 (k := 13) (by decide) e_σ18 hc
        refine lv_iconst (v := 0) S.1 S.2.1 dX4_says_30 (by decide) ?_
        exact r_iret S hr hlocks hG _ rfl ⟨⟨false, rfl, hf⟩, hc⟩ (bI_nar false) dX4_says_31
  · have hf := ite_p c_4 hf
    refine lv_iconst (v := 0) S.1 S.2.1 dX4_says_7 (by decide) ?_
    exact r_iret S hr hlocks hG _ rfl ⟨⟨false, rfl, hf⟩, hc⟩ (bI_nar false) dX4_says_8
theorem k_X4_says (l : Launch) (D : va_G) (cs : Nat → ClassId) (ad : Nat → Nat) (nr nx : Nat) : ∀ n : Nat, HSays l D cs ad nr nx n (f_X4_says n) := by
  intro n
  induction n with
  | zero =>
    intro σ x d wy T hc hd
    obtain ⟨j, -, h1, h2⟩ := hd
    exact absurd h2 (by omega)
  | succ n ih =>
    intro σ x d wy T hc hd
    exact r_met (by decide) rfl (Nat.le_of_ble_eq_true rfl) (fun p e s m args below meth c ls S hr hlocks _ hK hA hG hl => b_X4_says_0 ih S hr hlocks hK hA σ x d hc hd rfl _ _ hG ls hl)
