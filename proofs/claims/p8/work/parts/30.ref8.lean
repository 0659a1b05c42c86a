theorem cm_l {nr nx : Nat} {wy : Int32} : ∀ (n : Nat) (σ : Mem) (x1 x i : Int32), RInv nr nx wy σ → vp_in x 40 → cmI n σ i → RInv nr nx wy (f_X5_comes_19 n σ x1 x i) := by
  intro n
  induction n with
  | zero =>
    intro σ x1 x i _ _ hi
    obtain ⟨j, w, -, -, h1, h2, h3⟩ := hi
    omega
  | succ n ih =>
    intro σ x1 x i hI hid hi
    unfold f_X5_comes_19
    refine ite_i (P := RInv nr nx wy) (fun c => ?_) (fun c => ?_)
    · refine bnd_i (P := RInv nr nx wy) (fun s1 e1 => ?_)
      have h1 : RInv nr nx wy s1 := hI.go hid e1
      refine ite_i (P := RInv nr nx wy) (fun _ => h1) (fun _ => ?_)
      refine ite_i (P := RInv nr nx wy) (fun _ => h1) (fun c30 => ?_)
      refine bnd_i (P := RInv nr nx wy) (fun s2 e2 => ?_)
      refine bnd_i (P := RInv nr nx wy) (fun s3 e3 => ?_)
      refine bnd_i (P := RInv nr nx wy) (fun s4 e4 => ?_)
      refine bnd_i (P := RInv nr nx wy) (fun s5 e5 => ?_)
      have h2 := h1.row (by decide) e2
      have h3 := h2.row (by decide) e3
      have h4 := h3.row (by decide) e4
      have hk := h1.2.2.2.2.2
      obtain ⟨k, k1, k2⟩ := hk
      have hk3 : k < 30 := by
        rcases Nat.lt_or_ge k 30 with q | q
        · exact q
        · exact absurd (by rw [k2]; exact nI_le (a := 30) q (by omega)) c30
      obtain ⟨a1, a2, a3, a4, a5, a6⟩ := h4
      rw [e5]
      refine ⟨fun q hq => a1 q hq, a2.col (by decide), a3, a4, a5, k + 1, hk3, ?_⟩
      show s1 0 17 + 1 = nI (k + 1)
      rw [k2, nI_1]
    · refine bnd_i (P := RInv nr nx wy) (fun s1 e1 => ?_)
      refine bnd_i (P := RInv nr nx wy) (fun s2 e2 => ?_)
      refine bnd_i (P := RInv nr nx wy) (fun v ev => ?_)
      have hc := cm_in hi c
      have h1 : RInv nr nx wy s1 := by
        obtain ⟨a1, a2, a3, a4, a5, a6⟩ := hI
        rw [e1]
        exact ⟨fun q hq => a1 q hq, a2.w16 (a2.at hc.2.1), a3, a4, a5, a6⟩
      have h2 := h1.row (by decide) e2
      exact ih s2 x1 x v h2 hid (hc.2.2 v s2 ev (by rw [e2, e1]; rfl))
theorem RInv.comes {nr nx : Nat} {wy : Int32} {σ τ : Mem} {x1 : Int32} (h : RInv nr nx wy σ) (hk : atK σ x1) (e : τ = f_X5_comes σ x1) : RInv nr nx wy τ := by
  rw [e]
  unfold f_X5_comes
  refine bnd_i (P := RInv nr nx wy) (fun v ev => ?_)
  refine bnd_i (P := RInv nr nx wy) (fun s1 e1 => ?_)
  have hw := (cm_0 hk e1).2 h.2.1
  have h1 : RInv nr nx wy s1 := by
    obtain ⟨a1, a2, a3, a4, a5, a6⟩ := h
    refine ⟨?_, hw, ?_, ?_, ?_, ?_⟩
    · rw [e1]; exact fun q hq => a1 q hq
    · rw [e1]; exact a3
    · rw [e1]; exact a4
    · rw [e1]; exact a5
    · rw [e1]; exact a6
  exact cm_l 61 s1 x1 v x1 h1 (by rw [ev]; exact h.2.1.at (atK_in hk)) (cm_0 hk e1).1
def dueK (σ : Mem) (k : Int32) : Prop := k = -1 ∨ atK σ k
theorem due_l {σ : Mem} {w : Nat} (hw : σ 0 14 = nI w) (h60 : w ≤ 60) : ∀ (n : Nat) (a k : Int32), dueK σ a → (∃ q : Nat, q ≤ w ∧ k = nI q - 1 ∧ q < n) → dueK σ (f_X5_due_9 n σ a k) := by
  intro n
  induction n with
  | zero =>
    intro a k _ h
    obtain ⟨q, -, -, h⟩ := h
    omega
  | succ n ih =>
    intro a k ha h
    obtain ⟨q, h1, h2, h3⟩ := h
    unfold f_X5_due_9
    refine ite_i (P := dueK σ) (fun _ => ha) (fun c => ?_)
    have hq : 0 < q := by
      rcases Nat.eq_zero_or_pos q with z | z
      · subst z
        exact absurd (by rw [h2]; decide) c
      · exact z
    rw [nI_p hq] at h2
    have hn : ∀ v : Int32, v = k + (-1) → ∃ q : Nat, q ≤ w ∧ v = nI q - 1 ∧ q < n := fun v e => ⟨q - 1, by omega, by rw [e, h2]; exact (Int32.sub_eq_add_neg _ 1).symm, by omega⟩
    have hk : dueK σ k := Or.inr ⟨q - 1, w, h2, hw, by omega, h60⟩
    refine ite_i (P := dueK σ) (fun _ => ?_) (fun _ => ?_)
    · refine bnd_i (P := dueK σ) (fun v e => ih k v hk (hn v e))
    · refine bnd_i (P := dueK σ) (fun v e => ih a v ha (hn v e))
theorem due_ok {σ : Mem} (h : WV σ) : dueK σ (f_X5_due σ) := by
  obtain ⟨⟨w, h1, h2⟩, -⟩ := h
  unfold f_X5_due
  refine bnd_i (P := dueK σ) (fun v e => ?_)
  exact due_l h2 h1 61 (-1) v (Or.inl rfl) ⟨w, Nat.le_refl w, by rw [e, h2], by omega⟩
theorem in_X5_tick : ∀ w ∈ wsX50, w ∈ wsX5_tick := by decide +kernel
def f_X5_tick_41 (kk : Mem → Int32 → Int32 → Int32 → Int32 × Mem) : Nat → Mem → Int32 → Int32 → Int32 → Int32 → Int32 → Int32 × Mem
  | 0, σ, _, _, _, _, _ => (0, σ)
  | n + 1, σ, x1, a, i, d, k =>
  (if 100 ≤ d then
  bnd (a + d) fun v1 =>
  bnd (i + 1) fun v2 =>
  kk σ x1 v1 v2
  else
  (if k = (-1) then
  bnd (a + d) fun v3 =>
  bnd (i + 1) fun v4 =>
  kk σ x1 v3 v4
  else
  (if 20000 ≤ (σ 0 23) then
  bnd (a + d) fun v5 =>
  bnd (i + 1) fun v6 =>
  kk σ x1 v5 v6
  else
  bnd (d + 1) fun v7 =>
  bnd (f_X5_comes σ k) fun σ8 =>
  bnd (f_X5_due σ8) fun v9 =>
  f_X5_tick_41 kk n σ8 x1 a i v7 v9)))
set_option maxRecDepth 100000 in
set_option maxHeartbeats 4000000 in
theorem b_X5_tick_41 {p : Program} {l : Launch} {e : Env} {s : State} {m : MethodId} {args : Array Value} {below : List Frame} {meth : Method} {c : Code} {D : va_G} {cI : ClassId} {ad : Nat → Nat} {w0 : va_W} {nr nx : Nat} {wy : Int32} {X : Int32 × Mem} {kk : Mem → Int32 → Int32 → Int32 → Int32 × Mem} {n0 : Nat} (S : CallFix p m c cX5_tick 6 s args wsX5_tick RX5) (hr : meth.sig.returnType = (some .int)) (hlocks : meth.locks = false) (hK : va_K D vwCl [(cI, .int)] s) (hA : ∀ q, s.heap.size ≤ q → va_A w0 s.heap.size q) (hout : ∀ (σ : Mem) (x1 : Int32) (a : Int32) (i : Int32) (hI : RInv nr nx wy σ) (hx : x1 ≤ 50) (hi : lpW 50 n0 i), kk σ x1 a i = X → ∀ (H : Heap) (locs : List Loc), wI D vwCl (va_A w0 s.heap.size) s.heap H locs (RW ad cI σ) → ∀ (ls : Array Slot), lv_has ls 6 [(0, .ref (ad 0)), (1, .int x1), (2, .int a), (3, .int i)] → W p l e ({ frames := 6, cells := 0, slots := 0, locals := 141 } : Room) s m args below meth c H locs 0 0 (MQ below (va_Qi (fun (r : Int32) (u : Mem) => (r, u) = X) (fun u t => wPost D vwCl w0 s.heap.size ((fun u => RW ad cI u) u) t) (va_A w0 s.heap.size)) args s 0 0 (va_A w0 s.heap.size)) (F0 m 17 ls [])) : ∀ (n : Nat) (σ : Mem) (x1 : Int32) (a : Int32) (i : Int32) (d : Int32) (k : Int32) (hI : RInv nr nx wy σ) (hx : x1 ≤ 50) (hi : lpW 50 (n0 + 1) i) (hb : ¬ x1 ≤ i) (hd : lpW 100 n d) (hk : dueK σ k), f_X5_tick_41 kk n σ x1 a i d k = X → ∀ (H : Heap) (locs : List Loc), wI D vwCl (va_A w0 s.heap.size) s.heap H locs (RW ad cI σ) → ∀ (ls : Array Slot), lv_has ls 6 [(0, .ref (ad 0)), (1, .int x1), (2, .int a), (3, .int i), (4, .int d), (5, .int k)] → W p l e ({ frames := 6, cells := 0, slots := 0, locals := 141 } : Room) s m args below meth c H locs 0 0 (MQ below (va_Qi (fun (r : Int32) (u : Mem) => (r, u) = X) (fun u t => wPost D vwCl w0 s.heap.size ((fun u => RW ad cI u) u) t) (va_A w0 s.heap.size)) args s 0 0 (va_A w0 s.heap.size)) (F0 m 41 ls []) := by
  have hin := in_X5_tick
  intro n
  induction n with
  | zero =>
    intro σ x1 a i d k hI hx hi hb hd hk
    exact (by obtain ⟨q, -, h1, h2⟩ := hd; omega)
  | succ n ih =>
    intro σ x1 a i d k hI hx hi hb hd hk hf H locs hG ls hl
    unfold f_X5_tick_41 at hf
    refine lv_iload S.1 S.2.1 dX5_tick_41 (lv_at hl 4 rfl) ?_
    refine lv_bipush (v := 100) S.1 S.2.1 dX5_tick_43 (by decide) ?_
    refine lv_icmp_ge (tgt := 82) S.1 S.2.1 dX5_tick_45 (by decide) (fun c_45 => ?_) (fun c_45 => ?_)
    · have hf := ite_p c_45 hf
      refine lv_iload_n S.1 S.2.1 dX5_tick_82 rfl (lv_at hl 2 rfl) ?_
      refine lv_iload S.1 S.2.1 dX5_tick_83 (lv_at hl 4 rfl) ?_
      refine lv_iadd S.1 S.2.1 dX5_tick_85 ?_
      refine lv_topi (fun v1 e_v1 => ?_)
      have hf := bnd_p e_v1 hf
      refine lv_istore_n (lv' := [(2, .int v1), (0, .ref (ad 0)), (1, .int x1), (3, .int i), (4, .int d), (5, .int k)]) S.1 S.2.1 dX5_tick_86 rfl hl (by decide) rfl (fun ls hl => ?_)
      obtain ⟨v2, e_v2⟩ : ∃ z : Int32, z = i + 1 := ⟨_, rfl⟩
      have hf := bnd_p e_v2 hf
      refine lv_iinc (v := v2) (lv' := [(3, .int v2), (2, .int v1), (0, .ref (ad 0)), (1, .int x1), (4, .int d), (5, .int k)]) S.1 S.2.1 dX5_tick_87 hl (k := 3) rfl (by rw [e_v2]; rfl) (by decide) rfl (fun ls hl => ?_)
      refine lv_goto (tgt := 17) S.1 S.2.1 dX5_tick_90 (by decide) ?_
      exact hout σ x1 v1 v2 (hI) (hx) (tk_s hi hx hb (by assumption)) hf H locs hG ls (lv_sub hl [2, 3, 1, 0] rfl)
    · have hf := ite_n c_45 hf
      refine lv_iload S.1 S.2.1 dX5_tick_48 (lv_at hl 5 rfl) ?_
      refine lv_iconst (v := (-1)) S.1 S.2.1 dX5_tick_50 (by decide) ?_
      refine lv_icmp_eq (tgt := 82) S.1 S.2.1 dX5_tick_51 (by decide) (fun c_51 => ?_) (fun c_51 => ?_)
      · have hf := ite_p c_51 hf
        refine lv_iload_n S.1 S.2.1 dX5_tick_82 rfl (lv_at hl 2 rfl) ?_
        refine lv_iload S.1 S.2.1 dX5_tick_83 (lv_at hl 4 rfl) ?_
        refine lv_iadd S.1 S.2.1 dX5_tick_85 ?_
        refine lv_topi (fun v3 e_v3 => ?_)
        have hf := bnd_p e_v3 hf
        refine lv_istore_n (lv' := [(2, .int v3), (0, .ref (ad 0)), (1, .int x1), (3, .int i), (4, .int d), (5, .int k)]) S.1 S.2.1 dX5_tick_86 rfl hl (by decide) rfl (fun ls hl => ?_)
        obtain ⟨v4, e_v4⟩ : ∃ z : Int32, z = i + 1 := ⟨_, rfl⟩
        have hf := bnd_p e_v4 hf
        refine lv_iinc (v := v4) (lv' := [(3, .int v4), (2, .int v3), (0, .ref (ad 0)), (1, .int x1), (4, .int d), (5, .int k)]) S.1 S.2.1 dX5_tick_87 hl (k := 3) rfl (by rw [e_v4]; rfl) (by decide) rfl (fun ls hl => ?_)
        refine lv_goto (tgt := 17) S.1 S.2.1 dX5_tick_90 (by decide) ?_
        exact hout σ x1 v3 v4 (hI) (hx) (tk_s hi hx hb (by assumption)) hf H locs hG ls (lv_sub hl [2, 3, 1, 0] rfl)
      · have hf := ite_n c_51 hf
        refine lv_aload_n S.1 S.2.1 dX5_tick_54 rfl (lv_at hl 0 rfl) ?_
        refine M_get S hin hK hG 23 (by decide) (by decide +kernel) rfl dX5_tick_55 ?_
        refine lv_sipush (v := 20000) S.1 S.2.1 dX5_tick_58 (by decide) ?_
        refine lv_icmp_ge (tgt := 82) S.1 S.2.1 dX5_tick_61 (by decide) (fun c_61 => ?_) (fun c_61 => ?_)
        · have hf := ite_p c_61 hf
          refine lv_iload_n S.1 S.2.1 dX5_tick_82 rfl (lv_at hl 2 rfl) ?_
          refine lv_iload S.1 S.2.1 dX5_tick_83 (lv_at hl 4 rfl) ?_
          refine lv_iadd S.1 S.2.1 dX5_tick_85 ?_
          refine lv_topi (fun v5 e_v5 => ?_)
          have hf := bnd_p e_v5 hf
          refine lv_istore_n (lv' := [(2, .int v5), (0, .ref (ad 0)), (1, .int x1), (3, .int i), (4, .int d), (5, .int k)]) S.1 S.2.1 dX5_tick_86 rfl hl (by decide) rfl (fun ls hl => ?_)
          obtain ⟨v6, e_v6⟩ : ∃ z : Int32, z = i + 1 := ⟨_, rfl⟩
          have hf := bnd_p e_v6 hf
          refine lv_iinc (v := v6) (lv' := [(3, .int v6), (2, .int v5), (0, .ref (ad 0)), (1, .int x1), (4, .int d), (5, .int k)]) S.1 S.2.1 dX5_tick_87 hl (k := 3) rfl (by rw [e_v6]; rfl) (by decide) rfl (fun ls hl => ?_)
          refine lv_goto (tgt := 17) S.1 S.2.1 dX5_tick_90 (by decide) ?_
          exact hout σ x1 v5 v6 (hI) (hx) (tk_s hi hx hb (by assumption)) hf H locs hG ls (lv_sub hl [2, 3, 1, 0] rfl)
        · have hf := ite_n c_61 hf
          obtain ⟨v7, e_v7⟩ : ∃ z : Int32, z = d + 1 := ⟨_, rfl⟩
          have hf := bnd_p e_v7 hf
          refine lv_iinc (v := v7) (lv' := [(4, .int v7), (0, .ref (ad 0)), (1, .int x1), (2, .int a), (3, .int i), (5, .int k)]) S.1 S.2.1 dX5_tick_64 hl (k := 4) rfl (by rw [e_v7]; rfl) (by decide) rfl (fun ls hl => ?_)
          refine lv_aload_n S.1 S.2.1 dX5_tick_67 rfl (lv_at hl 1 rfl) ?_
          refine lv_iload S.1 S.2.1 dX5_tick_68 (lv_at hl 5 rfl) ?_
          refine r_callVv S hK hA hG (k_X5_comes l _ _ _ _ _ hI (hk.resolve_left c_51)) (cwV 1 S.2.2.2.2 gX5_tick_X5_comes rfl rfl rfl (by decide +kernel) ⟨Nat.le_of_ble_eq_true rfl, Nat.le_of_ble_eq_true rfl⟩) (va_recv hK hG.1 (ci := 5) (q0 := 0) rfl rfl) rfl hl.1 rfl (Nat.le_of_ble_eq_true rfl) dX5_tick_70 ⟨Nat.le_of_ble_eq_true rfl, Nat.le_of_ble_eq_true rfl⟩ (fun σ8 H locs e_σ8 hG => ?_)
          have hf := bnd_p e_σ8 hf
          refine lv_aload_n S.1 S.2.1 dX5_tick_73 rfl (lv_at hl 1 rfl) ?_
          refine r_callVi S hK hA hG (k_X5_due l _ _ _ _ (hI.comes (hk.resolve_left c_51) e_σ8).2.1) (cwV 0 S.2.2.2.2 gX5_tick_X5_due rfl rfl rfl (by decide +kernel) ⟨Nat.le_of_ble_eq_true rfl, Nat.le_of_ble_eq_true rfl⟩) (va_recv hK hG.1 (ci := 5) (q0 := 0) rfl rfl) rfl hl.1 rfl (Nat.le_of_ble_eq_true rfl) dX5_tick_74 ⟨Nat.le_of_ble_eq_true rfl, Nat.le_of_ble_eq_true rfl⟩ (fun r74 _ H locs hw hG => ?_)
          obtain rfl := hw
          refine lv_topi (fun v9 e_v9 => ?_)
          have hf := bnd_p e_v9 hf
          refine lv_istore (lv' := [(5, .int v9), (4, .int v7), (0, .ref (ad 0)), (1, .int x1), (2, .int a), (3, .int i)]) S.1 S.2.1 dX5_tick_77 hl (by decide) rfl (fun ls hl => ?_)
          refine lv_goto (tgt := 41) S.1 S.2.1 dX5_tick_79 (by decide) ?_
          exact ih σ8 x1 a i v7 v9 (hI.comes (hk.resolve_left c_51) e_σ8) (hx) (hi) (hb) (lpW_s hd (by decide) rfl c_45 e_v7) (by rw [e_v9]; exact due_ok (hI.comes (hk.resolve_left c_51) e_σ8).2.1) hf H locs hG ls (lv_sub hl [2, 3, 4, 5, 1, 0] rfl)
def f_X5_tick_17 : Nat → Mem → Int32 → Int32 → Int32 → Int32 × Mem
  | 0, σ, _, _, _ => (0, σ)
  | n + 1, σ, x1, a, i =>
  (if x1 ≤ i then
  (a, σ)
  else
  bnd (mset σ 0 2 ((σ 0 2) + 1)) fun σ1 =>
  bnd (f_X5_due σ1) fun v2 =>
  f_X5_tick_41 (f_X5_tick_17 n) 101 σ1 x1 a i 0 v2)
set_option maxRecDepth 100000 in
set_option maxHeartbeats 4000000 in
theorem b_X5_tick_17 {p : Program} {l : Launch} {e : Env} {s : State} {m : MethodId} {args : Array Value} {below : List Frame} {meth : Method} {c : Code} {D : va_G} {cI : ClassId} {ad : Nat → Nat} {w0 : va_W} {nr nx : Nat} {wy : Int32} {X : Int32 × Mem} (S : CallFix p m c cX5_tick 6 s args wsX5_tick RX5) (hr : meth.sig.returnType = (some .int)) (hlocks : meth.locks = false) (hK : va_K D vwCl [(cI, .int)] s) (hA : ∀ q, s.heap.size ≤ q → va_A w0 s.heap.size q) : ∀ (n : Nat) (σ : Mem) (x1 : Int32) (a : Int32) (i : Int32) (hI : RInv nr nx wy σ) (hx : x1 ≤ 50) (hi : lpW 50 n i), f_X5_tick_17 n σ x1 a i = X → ∀ (H : Heap) (locs : List Loc), wI D vwCl (va_A w0 s.heap.size) s.heap H locs (RW ad cI σ) → ∀ (ls : Array Slot), lv_has ls 6 [(0, .ref (ad 0)), (1, .int x1), (2, .int a), (3, .int i)] → W p l e ({ frames := 6, cells := 0, slots := 0, locals := 141 } : Room) s m args below meth c H locs 0 0 (MQ below (va_Qi (fun (r : Int32) (u : Mem) => (r, u) = X) (fun u t => wPost D vwCl w0 s.heap.size ((fun u => RW ad cI u) u) t) (va_A w0 s.heap.size)) args s 0 0 (va_A w0 s.heap.size)) (F0 m 17 ls []) := by
  have hin := in_X5_tick
  intro n
  induction n with
  | zero =>
    intro σ x1 a i hI hx hi
    exact (by obtain ⟨q, -, h1, h2⟩ := hi; omega)
  | succ n ih =>
    intro σ x1 a i hI hx hi hf H locs hG ls hl
    unfold f_X5_tick_17 at hf
    refine lv_iload_n S.1 S.2.1 dX5_tick_17 rfl (lv_at hl 3 rfl) ?_
    refine lv_iload_n S.1 S.2.1 dX5_tick_18 rfl (lv_at hl 1 rfl) ?_
    refine lv_icmp_ge (tgt := 93) S.1 S.2.1 dX5_tick_19 (by decide) (fun c_19 => ?_) (fun c_19 => ?_)
    · have hf := ite_p c_19 hf
      refine lv_iload_n S.1 S.2.1 dX5_tick_93 rfl (lv_at hl 2 rfl) ?_
      exact r_iret S hr hlocks hG _ rfl hf rfl dX5_tick_94
    · have hf := ite_n c_19 hf
      refine lv_aload_n S.1 S.2.1 dX5_tick_22 rfl (lv_at hl 0 rfl) ?_
      refine lv_dup S.1 S.2.1 dX5_tick_23 rfl ?_
      refine M_get S hin hK hG 2 (by decide) (by decide +kernel) rfl dX5_tick_24 ?_
      refine lv_iconst (v := 1) S.1 S.2.1 dX5_tick_27 (by decide) ?_
      refine lv_iadd S.1 S.2.1 dX5_tick_28 ?_
      refine M_put S hin hK hG 2 (by decide) (by decide +kernel) rfl rfl rfl (RWp_2 _ _ _ _) dX5_tick_29 (fun σ1 H locs e_σ1 hG => ?_)
      have hf := bnd_p e_σ1 hf
      refine lv_iconst (v := 0) S.1 S.2.1 dX5_tick_32 (by decide) ?_
      refine lv_istore (lv' := [(4, .int 0), (0, .ref (ad 0)), (1, .int x1), (2, .int a), (3, .int i)]) S.1 S.2.1 dX5_tick_33 hl (by decide) rfl (fun ls hl => ?_)
      refine lv_aload_n S.1 S.2.1 dX5_tick_35 rfl (lv_at hl 1 rfl) ?_
      refine r_callVi S hK hA hG (k_X5_due l _ _ _ _ (hI.col (by decide) e_σ1).2.1) (cwV 0 S.2.2.2.2 gX5_tick_X5_due rfl rfl rfl (by decide +kernel) ⟨Nat.le_of_ble_eq_true rfl, Nat.le_of_ble_eq_true rfl⟩) (va_recv hK hG.1 (ci := 5) (q0 := 0) rfl rfl) rfl hl.1 rfl (Nat.le_of_ble_eq_true rfl) dX5_tick_36 ⟨Nat.le_of_ble_eq_true rfl, Nat.le_of_ble_eq_true rfl⟩ (fun r36 _ H locs hw hG => ?_)
      obtain rfl := hw
      refine lv_topi (fun v2 e_v2 => ?_)
      have hf := bnd_p e_v2 hf
      refine lv_istore (lv' := [(5, .int v2), (4, .int 0), (0, .ref (ad 0)), (1, .int x1), (2, .int a), (3, .int i)]) S.1 S.2.1 dX5_tick_39 hl (by decide) rfl (fun ls hl => ?_)
      exact b_X5_tick_41 (n0 := n) S hr hlocks hK hA ih 101 σ1 x1 a i 0 v2 (hI.col (by decide) e_σ1) (hx) (hi) (c_19) (⟨0, rfl, by omega, by omega⟩) (by rw [e_v2]; exact due_ok (hI.col (by decide) e_σ1).2.1) hf H locs hG ls (lv_sub hl [2, 3, 4, 5, 1, 0] rfl)
def f_X5_tick (σ : Mem) (x1 : Int32) : Int32 × Mem :=
  (if (bI (f_X5_in x1 1 50)) = 0 then
  ((-3), σ)
  else
  f_X5_tick_17 51 σ x1 0 0)
set_option maxRecDepth 100000 in
set_option maxHeartbeats 4000000 in
theorem b_X5_tick_0 {p : Program} {l : Launch} {e : Env} {s : State} {m : MethodId} {args : Array Value} {below : List Frame} {meth : Method} {c : Code} {D : va_G} {cI : ClassId} {ad : Nat → Nat} {w0 : va_W} {nr nx : Nat} {wy : Int32} {X : Int32 × Mem} (S : CallFix p m c cX5_tick 6 s args wsX5_tick RX5) (hr : meth.sig.returnType = (some .int)) (hlocks : meth.locks = false) (hK : va_K D vwCl [(cI, .int)] s) (hA : ∀ q, s.heap.size ≤ q → va_A w0 s.heap.size q) (σ : Mem) (x1 : Int32) (hI : RInv nr nx wy σ) (hf : f_X5_tick σ x1 = X) (H : Heap) (locs : List Loc) (hG : wI D vwCl (va_A w0 s.heap.size) s.heap H locs (RW ad cI σ)) (ls : Array Slot) (hl : lv_has ls 6 [(0, .ref (ad 0)), (1, .int x1)]) : W p l e ({ frames := 6, cells := 0, slots := 0, locals := 141 } : Room) s m args below meth c H locs 0 0 (MQ below (va_Qi (fun (r : Int32) (u : Mem) => (r, u) = X) (fun u t => wPost D vwCl w0 s.heap.size ((fun u => RW ad cI u) u) t) (va_A w0 s.heap.size)) args s 0 0 (va_A w0 s.heap.size)) (F0 m 0 ls []) := by
  have hin := in_X5_tick
  unfold f_X5_tick at hf
  refine lv_iload_n S.1 S.2.1 dX5_tick_0 rfl (lv_at hl 1 rfl) ?_
  refine lv_iconst (v := 1) S.1 S.2.1 dX5_tick_1 (by decide) ?_
  refine lv_bipush (v := 50) S.1 S.2.1 dX5_tick_2 (by decide) ?_
  refine r_callSi S hK hA hG (k_X5_in l _ _ _ _ _ _ _) (cwS 3 S.2.2.2.2 gX5_tick_X5_in rfl rfl rfl (by decide +kernel) ⟨Nat.le_of_ble_eq_true rfl, Nat.le_of_ble_eq_true rfl⟩) rfl hl.1 rfl (Nat.le_of_ble_eq_true rfl) dX5_tick_4 ⟨Nat.le_of_ble_eq_true rfl, Nat.le_of_ble_eq_true rfl⟩ (fun r4 _ H locs hw hG => ?_)
  obtain rfl := hw
  refine lv_if_ne (tgt := 13) S.1 S.2.1 dX5_tick_7 (by decide) (fun c_7 => ?_) (fun c_7 => ?_)
  · have hf := ite_n c_7 hf
    refine lv_iconst (v := 0) S.1 S.2.1 dX5_tick_13 (by decide) ?_
    refine lv_istore_n (lv' := [(2, .int 0), (0, .ref (ad 0)), (1, .int x1)]) S.1 S.2.1 dX5_tick_14 rfl hl (by decide) rfl (fun ls hl => ?_)
    refine lv_iconst (v := 0) S.1 S.2.1 dX5_tick_15 (by decide) ?_
    refine lv_istore_n (lv' := [(3, .int 0), (2, .int 0), (0, .ref (ad 0)), (1, .int x1)]) S.1 S.2.1 dX5_tick_16 rfl hl (by decide) rfl (fun ls hl => ?_)
    exact b_X5_tick_17 S hr hlocks hK hA 51 σ x1 0 0 (hI) ((ri_in c_7).2) (⟨0, rfl, by omega, by omega⟩) hf H locs hG ls (lv_sub hl [2, 3, 1, 0] rfl)
  · have hf := ite_p c_7 hf
    refine lv_bipush (v := (-3)) S.1 S.2.1 dX5_tick_10 (by decide) ?_
    exact r_iret S hr hlocks hG _ rfl hf rfl dX5_tick_12
theorem k_X5_tick (l : Launch) (D : va_G) (cI : ClassId) (ad : Nat → Nat) (σ : Mem) (x1 : Int32) {nr nx : Nat} {wy : Int32} (hI : RInv nr nx wy σ) : CMi l yX5_tick wsX5_tick ({ frames := 6, cells := 0, slots := 0, locals := 141 } : Room) D vwCl [(cI, .int)] (RW ad cI σ) [.ref (ad 0), .int x1] (fun (r : Int32) (u : Mem) => (r, u) = (f_X5_tick σ x1)) (fun u => RW ad cI u) :=
  r_met (by decide) rfl (Nat.le_of_ble_eq_true rfl) (fun p e s m args below meth c ls S hr hlocks _ hK hA hG hl => b_X5_tick_0 S hr hlocks hK hA σ x1 hI rfl _ _ hG ls hl)
