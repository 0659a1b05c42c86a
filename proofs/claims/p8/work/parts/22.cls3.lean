theorem up_l {x b : Int32} {N : Nat} (h : ∃ k : Nat, k ≤ N ∧ x = nI k) (hb : b = nI N) (hN : N < 2 ^ 31) (hc : x < b) : vp_in x N ∧ ∃ k : Nat, k ≤ N ∧ x + 1 = nI k := by
  refine up_lt h hb hN (fun q => ?_)
  rw [Int32.le_iff_toInt_le] at q
  rw [Int32.lt_iff_toInt_lt] at hc
  omega
/-- the places of the two loops over what WAITS -/
def lpW (N n : Nat) (i : Int32) : Prop := ∃ k : Nat, i = nI k ∧ k ≤ N ∧ N + 1 ≤ k + n
theorem lpW_in {N n : Nat} {i b : Int32} (h : lpW N (n + 1) i) (hN : N < 2 ^ 31) (hb : b = nI N) (hc : ¬ b ≤ i) : vp_in i N := by
  obtain ⟨k, rfl, h1, -⟩ := h
  rcases Nat.lt_or_ge k N with q | q
  · exact vp_in_nI q hN
  · exact absurd (by rw [hb]; exact nI_le q (by omega)) hc
theorem lpW_s {N n : Nat} {i v b : Int32} (h : lpW N (n + 1) i) (hN : N < 2 ^ 31) (hb : b = nI N) (hc : ¬ b ≤ i) (e : v = i + 1) : lpW N n v := by
  obtain ⟨k, rfl, h1, h2⟩ := h
  refine ⟨k + 1, by rw [e]; exact nI_1 k, ?_, by omega⟩
  rcases Nat.lt_or_ge k N with q | q
  · omega
  · exact absurd (by rw [hb]; exact nI_le q (by omega)) hc
theorem lpW_in1 {N n : Nat} {i b : Int32} (h : lpW N (n + 1) i) (hN : N + 1 < 2 ^ 31) (hb : b = nI N) (hc : ¬ b ≤ i + 1) : vp_in (i + 1) N ∧ vp_in i N := by
  obtain ⟨k, rfl, h1, -⟩ := h
  rw [nI_1 k] at hc ⊢
  rcases Nat.lt_or_ge (k + 1) N with q | q
  · exact ⟨vp_in_nI q (by omega), vp_in_nI (by omega) (by omega)⟩
  · exact absurd (by rw [hb]; exact nI_le q (by omega)) hc
theorem lpW_s1 {N n : Nat} {i v b : Int32} (h : lpW N (n + 1) i) (hN : N + 1 < 2 ^ 31) (hb : b = nI N) (hc : ¬ b ≤ i + 1) (e : v = i + 1) : lpW N n v := by
  obtain ⟨k, rfl, h1, h2⟩ := h
  rw [nI_1 k] at hc e
  refine ⟨k + 1, e, ?_, by omega⟩
  rcases Nat.lt_or_ge (k + 1) N with q | q
  · omega
  · exact absurd (by rw [hb]; exact nI_le q (by omega)) hc
theorem dec60 {x : Int32} (h : ∃ k : Nat, 1 ≤ k ∧ k ≤ 60 ∧ x = nI k) : ∃ k : Nat, k ≤ 60 ∧ x - 1 = nI k := by
  obtain ⟨k, h1, h2, rfl⟩ := h
  refine ⟨k - 1, by omega, ?_⟩
  rw [show (1 : Int32) = nI 1 from rfl, pk_sub h1]
theorem szW {n : Nat} {i x : Int32} (h : lpW 60 (n + 1) i) (hx : ∃ k : Nat, k ≤ 60 ∧ x = nI k) (hc : ¬ x ≤ i) : ∃ k : Nat, 1 ≤ k ∧ k ≤ 60 ∧ x = nI k := by
  obtain ⟨k, h1, rfl⟩ := hx
  obtain ⟨j, rfl, h2, -⟩ := h
  refine ⟨k, ?_, h1, rfl⟩
  rcases Nat.eq_zero_or_pos k with q | q
  · subst q
    exact absurd (nI_le (Nat.zero_le j) (by omega)) hc
  · exact q
theorem in_X3_join_X3 : ∀ w ∈ wsX30, w ∈ wsX3_join := by decide +kernel
def f_X3_join (σ : Mem) (x1 : Int32) (x2 : Int32) : Mem :=
  (if (σ 6 2) < 60 then
  bnd (mset σ 8 (σ 6 2).toNatClampNeg x1) fun σ1 =>
  bnd (mset σ1 9 (σ 6 2).toNatClampNeg x2) fun σ2 =>
  bnd (mset σ2 6 2 ((σ 6 2) + 1)) fun σ3 =>
  σ3
  else
  σ)
set_option maxRecDepth 100000 in
set_option maxHeartbeats 4000000 in
theorem b_X3_join_0 {p : Program} {l : Launch} {e : Env} {s : State} {m : MethodId} {args : Array Value} {below : List Frame} {meth : Method} {c : Code} {D : va_G} {cs : Nat → ClassId} {ad : Nat → Nat} {nr nx : Nat} {wy : Int32} {T : Mem} {w0 : va_W} {X : Mem} (S : CallFix p m c cX3_join 3 s args wsX3_join RX3) (hr : meth.sig.returnType = none) (hlocks : meth.locks = false) (hK : va_K D vwCl (gT cs) s) (hA : ∀ q, s.heap.size ≤ q → va_A w0 s.heap.size q) (σ : Mem) (x1 : Int32) (x2 : Int32) (hc : CInv nr nx wy T σ) (hf : f_X3_join σ x1 x2 = X) (H : Heap) (locs : List Loc) (hG : wI D vwCl (va_A w0 s.heap.size) s.heap H locs (GW ad cs nr nx σ)) (ls : Array Slot) (hl : lv_has ls 3 [(0, .ref (ad 6)), (1, .int x1), (2, .int x2)]) : W p l e ({ frames := 0, cells := 0, slots := 0, locals := 0 } : Room) s m args below meth c H locs 0 0 (MQ below (va_Qv (fun (u : Mem) => u = X ∧ CInv nr nx wy T u) (fun u t => wPost D vwCl w0 s.heap.size ((fun u => GW ad cs nr nx u) u) t) (va_A w0 s.heap.size)) args s 0 0 (va_A w0 s.heap.size)) (F0 m 0 ls []) := by
  have hinX3 := in_X3_join_X3
  unfold f_X3_join at hf
  have hq : CInv nr nx wy T σ := hc
  refine lv_aload_n S.1 S.2.1 dX3_join_0 rfl (lv_at hl 0 rfl) ?_
  refine r_get S hK hG hinX3 6 rfl rfl 2 (by decide) (by decide +kernel) rfl dX3_join_1 ?_
  refine lv_bipush (v := 60) S.1 S.2.1 dX3_join_4 (by decide) ?_
  refine lv_icmp_lt (tgt := 10) S.1 S.2.1 dX3_join_6 (by decide) (fun c_6 => ?_) (fun c_6 => ?_)
  · have hf := ite_p c_6 hf
    refine lv_aload_n S.1 S.2.1 dX3_join_10 rfl (lv_at hl 0 rfl) ?_
    refine r_get S hK hG hinX3 6 rfl rfl 0 (by decide) (by decide +kernel) rfl dX3_join_11 ?_
    refine lv_aload_n S.1 S.2.1 dX3_join_14 rfl (lv_at hl 0 rfl) ?_
    refine r_get (v := .int (σ 6 2)) S hK hG hinX3 6 rfl rfl 2 (by decide) (by decide +kernel) rfl dX3_join_15 ?_
    refine lv_iload_n S.1 S.2.1 dX3_join_18 rfl (lv_at hl 1 rfl) ?_
    refine C_ast S hK hG 8 60 rfl (up_l hq.2.2.1 rfl (by decide) c_6).1 (GWs_8 _ _ _ _ _ _) dX3_join_19 (fun σ1 H locs e_σ1 hG => ?_)
    have hf := bnd_p e_σ1 hf
    have hc := ci_row (by decide) e_σ1 hc
    refine lv_aload_n S.1 S.2.1 dX3_join_20 rfl (lv_at hl 0 rfl) ?_
    refine r_get S hK hG hinX3 6 rfl rfl 1 (by decide) (by decide +kernel) rfl dX3_join_21 ?_
    refine lv_aload_n S.1 S.2.1 dX3_join_24 rfl (lv_at hl 0 rfl) ?_
    refine r_get (v := .int (σ 6 2)) S hK hG hinX3 6 rfl rfl 2 (by decide) (by decide +kernel) (by rw [e_σ1]; rfl) dX3_join_25 ?_
    refine lv_iload_n S.1 S.2.1 dX3_join_28 rfl (lv_at hl 2 rfl) ?_
    refine C_ast S hK hG 9 60 rfl (up_l hq.2.2.1 rfl (by decide) c_6).1 (GWs_9 _ _ _ _ _ _) dX3_join_29 (fun σ2 H locs e_σ2 hG => ?_)
    have hf := bnd_p e_σ2 hf
    have hc := ci_row (by decide) e_σ2 hc
    refine lv_aload_n S.1 S.2.1 dX3_join_30 rfl (lv_at hl 0 rfl) ?_
    refine lv_dup S.1 S.2.1 dX3_join_31 rfl ?_
    refine r_get (v := .int (σ 6 2)) S hK hG hinX3 6 rfl rfl 2 (by decide) (by decide +kernel) (by rw [e_σ2, e_σ1]; rfl) dX3_join_32 ?_
    refine lv_iconst (v := 1) S.1 S.2.1 dX3_join_35 (by decide) ?_
    refine lv_iadd S.1 S.2.1 dX3_join_36 ?_
    refine C_put S hK hG hinX3 tyX3 tyX3_ok nmX3 6 rfl rfl 2 (by decide) (by decide +kernel) rfl rfl rfl (Nat.le_of_ble_eq_true rfl) (GWp_6_2 _ _ _ _ _ _) dX3_join_37 (fun σ3 H locs e_σ3 hG => ?_)
    have hf := bnd_p e_σ3 hf
    have hc := ci_w (up_l hq.2.2.1 rfl (by decide) c_6).2 e_σ3 hc
    exact r_vret S hr hlocks hG _ rfl ⟨hf, hc⟩ dX3_join_40
  · have hf := ite_n c_6 hf
    exact r_vret S hr hlocks hG _ rfl ⟨hf, hc⟩ dX3_join_9
theorem k_X3_join (l : Launch) (D : va_G) (cs : Nat → ClassId) (ad : Nat → Nat) (nr nx : Nat) (σ : Mem) (x1 : Int32) (x2 : Int32) {wy : Int32} {T : Mem} (hc : CInv nr nx wy T σ) : CMv l yX3_join wsX3_join ({ frames := 0, cells := 0, slots := 0, locals := 0 } : Room) D vwCl (gT cs) (GW ad cs nr nx σ) [.ref (ad 6), .int x1, .int x2] (fun (u : Mem) => u = (f_X3_join σ x1 x2) ∧ CInv nr nx wy T u) (fun u => GW ad cs nr nx u) :=
  r_met (by decide) rfl (Nat.le_of_ble_eq_true rfl) (fun p e s m args below meth c ls S hr hlocks _ hK hA hG hl => b_X3_join_0 S hr hlocks hK hA σ x1 x2 hc rfl _ _ hG ls hl)
theorem in_X3_closeGapAt_X3 : ∀ w ∈ wsX30, w ∈ wsX3_closeGapAt := by decide +kernel
def f_X3_closeGapAt_2 : Nat → Mem → Int32 → Int32 → Mem
  | 0, σ, _, _ => σ
  | n + 1, σ, x1, i =>
  (if (σ 6 2) ≤ (i + 1) then
  bnd (mset σ 6 2 ((σ 6 2) - 1)) fun σ1 =>
  σ1
  else
  (if 60 ≤ (i + 1) then
  bnd (mset σ 6 2 ((σ 6 2) - 1)) fun σ2 =>
  σ2
  else
  bnd (mset σ 8 i.toNatClampNeg (σ 8 (i + 1).toNatClampNeg)) fun σ3 =>
  bnd (mset σ3 9 i.toNatClampNeg (σ3 9 (i + 1).toNatClampNeg)) fun σ4 =>
  bnd (i + 1) fun v5 =>
  f_X3_closeGapAt_2 n σ4 x1 v5))
set_option maxRecDepth 100000 in
set_option maxHeartbeats 4000000 in
theorem b_X3_closeGapAt_2 {p : Program} {l : Launch} {e : Env} {s : State} {m : MethodId} {args : Array Value} {below : List Frame} {meth : Method} {c : Code} {D : va_G} {cs : Nat → ClassId} {ad : Nat → Nat} {nr nx : Nat} {wy : Int32} {T : Mem} {w0 : va_W} {X : Mem} (S : CallFix p m c cX3_closeGapAt 3 s args wsX3_closeGapAt RX3) (hr : meth.sig.returnType = none) (hlocks : meth.locks = false) (hK : va_K D vwCl (gT cs) s) (hA : ∀ q, s.heap.size ≤ q → va_A w0 s.heap.size q) : ∀ (n : Nat) (σ : Mem) (x1 : Int32) (i : Int32) (hc : CInv nr nx wy T σ) (hs : ∃ k : Nat, 1 ≤ k ∧ k ≤ 60 ∧ σ 6 2 = nI k) (hi : lpW 60 n i), f_X3_closeGapAt_2 n σ x1 i = X → ∀ (H : Heap) (locs : List Loc), wI D vwCl (va_A w0 s.heap.size) s.heap H locs (GW ad cs nr nx σ) → ∀ (ls : Array Slot), lv_has ls 3 [(0, .ref (ad 6)), (1, .int x1), (2, .int i)] → W p l e ({ frames := 0, cells := 0, slots := 0, locals := 0 } : Room) s m args below meth c H locs 0 0 (MQ below (va_Qv (fun (u : Mem) => u = X ∧ CInv nr nx wy T u) (fun u t => wPost D vwCl w0 s.heap.size ((fun u => GW ad cs nr nx u) u) t) (va_A w0 s.heap.size)) args s 0 0 (va_A w0 s.heap.size)) (F0 m 2 ls []) := by
  have hinX3 := in_X3_closeGapAt_X3
  intro n
  induction n with
  | zero =>
    intro σ x1 i hc hs hi
    exact (by obtain ⟨k, -, h1, h2⟩ := hi; omega)
  | succ n ih =>
    intro σ x1 i hc hs hi hf H locs hG ls hl
    unfold f_X3_closeGapAt_2 at hf
    refine lv_iload_n S.1 S.2.1 dX3_closeGapAt_2 rfl (lv_at hl 2 rfl) ?_
    refine lv_iconst (v := 1) S.1 S.2.1 dX3_closeGapAt_3 (by decide) ?_
    refine lv_iadd S.1 S.2.1 dX3_closeGapAt_4 ?_
    refine lv_aload_n S.1 S.2.1 dX3_closeGapAt_5 rfl (lv_at hl 0 rfl) ?_
    refine r_get S hK hG hinX3 6 rfl rfl 2 (by decide) (by decide +kernel) rfl dX3_closeGapAt_6 ?_
    refine lv_icmp_ge (tgt := 54) S.1 S.2.1 dX3_closeGapAt_9 (by decide) (fun c_9 => ?_) (fun c_9 => ?_)
    · have hf := ite_p c_9 hf
      refine lv_aload_n S.1 S.2.1 dX3_closeGapAt_54 rfl (lv_at hl 0 rfl) ?_
      refine lv_dup S.1 S.2.1 dX3_closeGapAt_55 rfl ?_
      refine r_get (v := .int (σ 6 2)) S hK hG hinX3 6 rfl rfl 2 (by decide) (by decide +kernel) rfl dX3_closeGapAt_56 ?_
      refine lv_iconst (v := 1) S.1 S.2.1 dX3_closeGapAt_59 (by decide) ?_
      refine lv_isub S.1 S.2.1 dX3_closeGapAt_60 ?_
      refine C_put S hK hG hinX3 tyX3 tyX3_ok nmX3 6 rfl rfl 2 (by decide) (by decide +kernel) rfl rfl rfl (Nat.le_of_ble_eq_true rfl) (GWp_6_2 _ _ _ _ _ _) dX3_closeGapAt_61 (fun σ1 H locs e_σ1 hG => ?_)
      have hf := bnd_p e_σ1 hf
      have hc := by first | exact ci_w (dec60 hs) e_σ1 hc | exact ci_w (dec60 hs) e_σ2 hc | exact ci_w (dec60 hs) e_σ3 hc | exact ci_w (dec60 hs) e_σ4 hc | exact ci_w (dec60 hs) e_σ5 hc
      exact r_vret S hr hlocks hG _ rfl ⟨hf, hc⟩ dX3_closeGapAt_64
    · have hf := ite_n c_9 hf
      refine lv_iload_n S.1 S.2.1 dX3_closeGapAt_12 rfl (lv_at hl 2 rfl) ?_
      refine lv_iconst (v := 1) S.1 S.2.1 dX3_closeGapAt_13 (by decide) ?_
      refine lv_iadd S.1 S.2.1 dX3_closeGapAt_14 ?_
      refine lv_bipush (v := 60) S.1 S.2.1 dX3_closeGapAt_15 (by decide) ?_
      refine lv_icmp_ge (tgt := 54) S.1 S.2.1 dX3_closeGapAt_17 (by decide) (fun c_17 => ?_) (fun c_17 => ?_)
      · have hf := ite_p c_17 hf
        refine lv_aload_n S.1 S.2.1 dX3_closeGapAt_54 rfl (lv_at hl 0 rfl) ?_
        refine lv_dup S.1 S.2.1 dX3_closeGapAt_55 rfl ?_
        refine r_get (v := .int (σ 6 2)) S hK hG hinX3 6 rfl rfl 2 (by decide) (by decide +kernel) rfl dX3_closeGapAt_56 ?_
        refine lv_iconst (v := 1) S.1 S.2.1 dX3_closeGapAt_59 (by decide) ?_
        refine lv_isub S.1 S.2.1 dX3_closeGapAt_60 ?_
        refine C_put S hK hG hinX3 tyX3 tyX3_ok nmX3 6 rfl rfl 2 (by decide) (by decide +kernel) rfl rfl rfl (Nat.le_of_ble_eq_true rfl) (GWp_6_2 _ _ _ _ _ _) dX3_closeGapAt_61 (fun σ2 H locs e_σ2 hG => ?_)
        have hf := bnd_p e_σ2 hf
        have hc := by first | exact ci_w (dec60 hs) e_σ1 hc | exact ci_w (dec60 hs) e_σ2 hc | exact ci_w (dec60 hs) e_σ3 hc | exact ci_w (dec60 hs) e_σ4 hc | exact ci_w (dec60 hs) e_σ5 hc
        exact r_vret S hr hlocks hG _ rfl ⟨hf, hc⟩ dX3_closeGapAt_64
      · have hf := ite_n c_17 hf
        refine lv_aload_n S.1 S.2.1 dX3_closeGapAt_20 rfl (lv_at hl 0 rfl) ?_
        refine r_get S hK hG hinX3 6 rfl rfl 0 (by decide) (by decide +kernel) rfl dX3_closeGapAt_21 ?_
        refine lv_iload_n S.1 S.2.1 dX3_closeGapAt_24 rfl (lv_at hl 2 rfl) ?_
        refine lv_aload_n S.1 S.2.1 dX3_closeGapAt_25 rfl (lv_at hl 0 rfl) ?_
        refine r_get S hK hG hinX3 6 rfl rfl 0 (by decide) (by decide +kernel) rfl dX3_closeGapAt_26 ?_
        refine lv_iload_n S.1 S.2.1 dX3_closeGapAt_29 rfl (lv_at hl 2 rfl) ?_
        refine lv_iconst (v := 1) S.1 S.2.1 dX3_closeGapAt_30 (by decide) ?_
        refine lv_iadd S.1 S.2.1 dX3_closeGapAt_31 ?_
        refine r_iald S hK hG 8 0 rfl rfl (lpW_in1 hi (by decide) rfl c_17).1 dX3_closeGapAt_32 ?_
        refine C_ast S hK hG 8 60 rfl (lpW_in1 hi (by decide) rfl c_17).2 (GWs_8 _ _ _ _ _ _) dX3_closeGapAt_33 (fun σ3 H locs e_σ3 hG => ?_)
        have hf := bnd_p e_σ3 hf
        have hc := ci_row (by decide) e_σ3 hc
        refine lv_aload_n S.1 S.2.1 dX3_closeGapAt_34 rfl (lv_at hl 0 rfl) ?_
        refine r_get S hK hG hinX3 6 rfl rfl 1 (by decide) (by decide +kernel) rfl dX3_closeGapAt_35 ?_
        refine lv_iload_n S.1 S.2.1 dX3_closeGapAt_38 rfl (lv_at hl 2 rfl) ?_
        refine lv_aload_n S.1 S.2.1 dX3_closeGapAt_39 rfl (lv_at hl 0 rfl) ?_
        refine r_get S hK hG hinX3 6 rfl rfl 1 (by decide) (by decide +kernel) rfl dX3_closeGapAt_40 ?_
        refine lv_iload_n S.1 S.2.1 dX3_closeGapAt_43 rfl (lv_at hl 2 rfl) ?_
        refine lv_iconst (v := 1) S.1 S.2.1 dX3_closeGapAt_44 (by decide) ?_
        refine lv_iadd S.1 S.2.1 dX3_closeGapAt_45 ?_
        refine r_iald S hK hG 9 0 rfl rfl (lpW_in1 hi (by decide) rfl c_17).1 dX3_closeGapAt_46 ?_
        refine C_ast S hK hG 9 60 rfl (lpW_in1 hi (by decide) rfl c_17).2 (GWs_9 _ _ _ _ _ _) dX3_closeGapAt_47 (fun σ4 H locs e_σ4 hG => ?_)
        have hf := bnd_p e_σ4 hf
        have hc := ci_row (by decide) e_σ4 hc
        obtain ⟨v5, e_v5⟩ : ∃ z : Int32, z = i + 1 := ⟨_, rfl⟩
        have hf := bnd_p e_v5 hf
        refine lv_iinc (v := v5) (lv' := [(2, .int v5), (0, .ref (ad 6)), (1, .int x1)]) S.1 S.2.1 dX3_closeGapAt_48 hl (k := 2) rfl (by rw [e_v5]; rfl) (by decide) rfl (fun ls hl => ?_)
        refine lv_goto (tgt := 2) S.1 S.2.1 dX3_closeGapAt_51 (by decide) ?_
        exact ih σ4 x1 v5 (hc) (by rw [e_σ4, e_σ3]; exact hs) (lpW_s1 hi (by decide) rfl c_17 e_v5) hf H locs hG ls (lv_sub hl [1, 2, 0] rfl)
def f_X3_closeGapAt (σ : Mem) (x1 : Int32) : Mem :=
  f_X3_closeGapAt_2 61 σ x1 x1
set_option maxRecDepth 100000 in
set_option maxHeartbeats 4000000 in
theorem b_X3_closeGapAt_0 {p : Program} {l : Launch} {e : Env} {s : State} {m : MethodId} {args : Array Value} {below : List Frame} {meth : Method} {c : Code} {D : va_G} {cs : Nat → ClassId} {ad : Nat → Nat} {nr nx : Nat} {wy : Int32} {T : Mem} {w0 : va_W} {X : Mem} (S : CallFix p m c cX3_closeGapAt 3 s args wsX3_closeGapAt RX3) (hr : meth.sig.returnType = none) (hlocks : meth.locks = false) (hK : va_K D vwCl (gT cs) s) (hA : ∀ q, s.heap.size ≤ q → va_A w0 s.heap.size q) (σ : Mem) (x1 : Int32) (hc : CInv nr nx wy T σ) (hs : ∃ k : Nat, 1 ≤ k ∧ k ≤ 60 ∧ σ 6 2 = nI k) (hx1 : lpW 60 61 x1) (hf : f_X3_closeGapAt σ x1 = X) (H : Heap) (locs : List Loc) (hG : wI D vwCl (va_A w0 s.heap.size) s.heap H locs (GW ad cs nr nx σ)) (ls : Array Slot) (hl : lv_has ls 3 [(0, .ref (ad 6)), (1, .int x1)]) : W p l e ({ frames := 0, cells := 0, slots := 0, locals := 0 } : Room) s m args below meth c H locs 0 0 (MQ below (va_Qv (fun (u : Mem) => u = X ∧ CInv nr nx wy T u) (fun u t => wPost D vwCl w0 s.heap.size ((fun u => GW ad cs nr nx u) u) t) (va_A w0 s.heap.size)) args s 0 0 (va_A w0 s.heap.size)) (F0 m 0 ls []) := by
  have hinX3 := in_X3_closeGapAt_X3
  unfold f_X3_closeGapAt at hf
  refine lv_iload_n S.1 S.2.1 dX3_closeGapAt_0 rfl (lv_at hl 1 rfl) ?_
  refine lv_istore_n (lv' := [(2, .int x1), (0, .ref (ad 6)), (1, .int x1)]) S.1 S.2.1 dX3_closeGapAt_1 rfl hl (by decide) rfl (fun ls hl => ?_)
  exact b_X3_closeGapAt_2 S hr hlocks hK hA 61 σ x1 x1 (hc) (hs) (hx1) hf H locs hG ls (lv_sub hl [1, 2, 0] rfl)
theorem k_X3_closeGapAt (l : Launch) (D : va_G) (cs : Nat → ClassId) (ad : Nat → Nat) (nr nx : Nat) (σ : Mem) (x1 : Int32) {wy : Int32} {T : Mem} (hc : CInv nr nx wy T σ) (hs : ∃ k : Nat, 1 ≤ k ∧ k ≤ 60 ∧ σ 6 2 = nI k) (hx1 : lpW 60 61 x1) : CMv l yX3_closeGapAt wsX3_closeGapAt ({ frames := 0, cells := 0, slots := 0, locals := 0 } : Room) D vwCl (gT cs) (GW ad cs nr nx σ) [.ref (ad 6), .int x1] (fun (u : Mem) => u = (f_X3_closeGapAt σ x1) ∧ CInv nr nx wy T u) (fun u => GW ad cs nr nx u) :=
  r_met (by decide) rfl (Nat.le_of_ble_eq_true rfl) (fun p e s m args below meth c ls S hr hlocks _ hK hA hG hl => b_X3_closeGapAt_0 S hr hlocks hK hA σ x1 hc hs hx1 rfl _ _ hG ls hl)
theorem in_X3_takeFirstFor_X3 : ∀ w ∈ wsX30, w ∈ wsX3_takeFirstFor := by decide +kernel
def f_X3_takeFirstFor_2 : Nat → Mem → Int32 → Int32 → Int32 × Mem
  | 0, σ, _, _ => (0, σ)
  | n + 1, σ, x1, i =>
  (if (σ 6 2) ≤ i then
  ((-1), σ)
  else
  (if 60 ≤ i then
  ((-1), σ)
  else
  (if (σ 9 i.toNatClampNeg) = x1 then
  bnd (σ 8 i.toNatClampNeg) fun v2 =>
  bnd (f_X3_closeGapAt σ i) fun σ3 =>
  (v2, σ3)
  else
  bnd (i + 1) fun v1 =>
  f_X3_takeFirstFor_2 n σ x1 v1)))
set_option maxRecDepth 100000 in
set_option maxHeartbeats 4000000 in
theorem b_X3_takeFirstFor_2 {p : Program} {l : Launch} {e : Env} {s : State} {m : MethodId} {args : Array Value} {below : List Frame} {meth : Method} {c : Code} {D : va_G} {cs : Nat → ClassId} {ad : Nat → Nat} {nr nx : Nat} {wy : Int32} {T : Mem} {w0 : va_W} {X : Int32 × Mem} (S : CallFix p m c cX3_takeFirstFor 4 s args wsX3_takeFirstFor RX3) (hr : meth.sig.returnType = (some .int)) (hlocks : meth.locks = false) (hK : va_K D vwCl (gT cs) s) (hA : ∀ q, s.heap.size ≤ q → va_A w0 s.heap.size q) : ∀ (n : Nat) (σ : Mem) (x1 : Int32) (i : Int32) (hc : CInv nr nx wy T σ) (hi : lpW 60 n i), f_X3_takeFirstFor_2 n σ x1 i = X → ∀ (H : Heap) (locs : List Loc), wI D vwCl (va_A w0 s.heap.size) s.heap H locs (GW ad cs nr nx σ) → ∀ (ls : Array Slot), lv_has ls 4 [(0, .ref (ad 6)), (1, .int x1), (2, .int i)] → W p l e ({ frames := 1, cells := 0, slots := 0, locals := 22 } : Room) s m args below meth c H locs 0 0 (MQ below (va_Qi (fun (r : Int32) (u : Mem) => (r, u) = X ∧ CInv nr nx wy T u) (fun u t => wPost D vwCl w0 s.heap.size ((fun u => GW ad cs nr nx u) u) t) (va_A w0 s.heap.size)) args s 0 0 (va_A w0 s.heap.size)) (F0 m 2 ls []) := by
  have hinX3 := in_X3_takeFirstFor_X3
  intro n
  induction n with
  | zero =>
    intro σ x1 i hc hi
    exact (by obtain ⟨k, -, h1, h2⟩ := hi; omega)
  | succ n ih =>
    intro σ x1 i hc hi hf H locs hG ls hl
    unfold f_X3_takeFirstFor_2 at hf
    refine lv_iload_n S.1 S.2.1 dX3_takeFirstFor_2 rfl (lv_at hl 2 rfl) ?_
    refine lv_aload_n S.1 S.2.1 dX3_takeFirstFor_3 rfl (lv_at hl 0 rfl) ?_
    refine r_get S hK hG hinX3 6 rfl rfl 2 (by decide) (by decide +kernel) rfl dX3_takeFirstFor_4 ?_
    refine lv_icmp_ge (tgt := 46) S.1 S.2.1 dX3_takeFirstFor_7 (by decide) (fun c_7 => ?_) (fun c_7 => ?_)
    · have hf := ite_p c_7 hf
      refine lv_iconst (v := (-1)) S.1 S.2.1 dX3_takeFirstFor_46 (by decide) ?_
      exact r_iret S hr hlocks hG _ rfl ⟨hf, hc⟩ rfl dX3_takeFirstFor_47
    · have hf := ite_n c_7 hf
      refine lv_iload_n S.1 S.2.1 dX3_takeFirstFor_10 rfl (lv_at hl 2 rfl) ?_
      refine lv_bipush (v := 60) S.1 S.2.1 dX3_takeFirstFor_11 (by decide) ?_
      refine lv_icmp_ge (tgt := 46) S.1 S.2.1 dX3_takeFirstFor_13 (by decide) (fun c_13 => ?_) (fun c_13 => ?_)
      · have hf := ite_p c_13 hf
        refine lv_iconst (v := (-1)) S.1 S.2.1 dX3_takeFirstFor_46 (by decide) ?_
        exact r_iret S hr hlocks hG _ rfl ⟨hf, hc⟩ rfl dX3_takeFirstFor_47
      · have hf := ite_n c_13 hf
        refine lv_aload_n S.1 S.2.1 dX3_takeFirstFor_16 rfl (lv_at hl 0 rfl) ?_
        refine r_get S hK hG hinX3 6 rfl rfl 1 (by decide) (by decide +kernel) rfl dX3_takeFirstFor_17 ?_
        refine lv_iload_n S.1 S.2.1 dX3_takeFirstFor_20 rfl (lv_at hl 2 rfl) ?_
        refine r_iald S hK hG 9 0 rfl rfl (lpW_in hi (by decide) rfl c_13) dX3_takeFirstFor_21 ?_
        refine lv_iload_n S.1 S.2.1 dX3_takeFirstFor_22 rfl (lv_at hl 1 rfl) ?_
        refine lv_icmp_ne (tgt := 40) S.1 S.2.1 dX3_takeFirstFor_23 (by decide) (fun c_23 => ?_) (fun c_23 => ?_)
        · have hf := ite_n c_23 hf
          obtain ⟨v1, e_v1⟩ : ∃ z : Int32, z = i + 1 := ⟨_, rfl⟩
          have hf := bnd_p e_v1 hf
          refine lv_iinc (v := v1) (lv' := [(2, .int v1), (0, .ref (ad 6)), (1, .int x1)]) S.1 S.2.1 dX3_takeFirstFor_40 hl (k := 2) rfl (by rw [e_v1]; rfl) (by decide) rfl (fun ls hl => ?_)
          refine lv_goto (tgt := 2) S.1 S.2.1 dX3_takeFirstFor_43 (by decide) ?_
          exact ih σ x1 v1 (hc) (lpW_s hi (by decide) rfl c_13 e_v1) hf H locs hG ls (lv_sub hl [1, 2, 0] rfl)
        · have hf := ite_p c_23 hf
          refine lv_aload_n S.1 S.2.1 dX3_takeFirstFor_26 rfl (lv_at hl 0 rfl) ?_
          refine r_get S hK hG hinX3 6 rfl rfl 0 (by decide) (by decide +kernel) rfl dX3_takeFirstFor_27 ?_
          refine lv_iload_n S.1 S.2.1 dX3_takeFirstFor_30 rfl (lv_at hl 2 rfl) ?_
          refine r_iald S hK hG 8 0 rfl rfl (lpW_in hi (by decide) rfl c_13) dX3_takeFirstFor_31 ?_
          refine lv_topi (fun v2 e_v2 => ?_)
          have hf := bnd_p e_v2 hf
          refine lv_istore_n (lv' := [(3, .int v2), (0, .ref (ad 6)), (1, .int x1), (2, .int i)]) S.1 S.2.1 dX3_takeFirstFor_32 rfl hl (by decide) rfl (fun ls hl => ?_)
          refine lv_aload_n S.1 S.2.1 dX3_takeFirstFor_33 rfl (lv_at hl 1 rfl) ?_
          refine lv_iload_n S.1 S.2.1 dX3_takeFirstFor_34 rfl (lv_at hl 3 rfl) ?_
          refine r_callVv S hK hA hG (k_X3_closeGapAt l _ _ _ _ _ _ _ hc (szW hi hc.2.2.1 c_7) (by obtain ⟨k, h0, h1, h2⟩ := hi; exact ⟨k, h0, h1, by omega⟩)) (cwV 1 S.2.2.2.2 gX3_takeFirstFor_X3_closeGapAt rfl rfl rfl (by decide +kernel) ⟨Nat.le_of_ble_eq_true rfl, Nat.le_of_ble_eq_true rfl⟩) (va_recv hK hG.1 (ci := 3) (q0 := 6) rfl rfl) rfl hl.1 rfl (Nat.le_of_ble_eq_true rfl) dX3_takeFirstFor_35 ⟨Nat.le_of_ble_eq_true rfl, Nat.le_of_ble_eq_true rfl⟩ (fun σ3 H locs hw hG => ?_)
          obtain ⟨e_σ3, hc⟩ := hw
          have hf := bnd_p e_σ3 hf
          refine lv_iload_n S.1 S.2.1 dX3_takeFirstFor_38 rfl (lv_at hl 0 rfl) ?_
          exact r_iret S hr hlocks hG _ rfl ⟨hf, hc⟩ rfl dX3_takeFirstFor_39
def f_X3_takeFirstFor (σ : Mem) (x1 : Int32) : Int32 × Mem :=
  f_X3_takeFirstFor_2 61 σ x1 0
set_option maxRecDepth 100000 in
set_option maxHeartbeats 4000000 in
theorem b_X3_takeFirstFor_0 {p : Program} {l : Launch} {e : Env} {s : State} {m : MethodId} {args : Array Value} {below : List Frame} {meth : Method} {c : Code} {D : va_G} {cs : Nat → ClassId} {ad : Nat → Nat} {nr nx : Nat} {wy : Int32} {T : Mem} {w0 : va_W} {X : Int32 × Mem} (S : CallFix p m c cX3_takeFirstFor 4 s args wsX3_takeFirstFor RX3) (hr : meth.sig.returnType = (some .int)) (hlocks : meth.locks = false) (hK : va_K D vwCl (gT cs) s) (hA : ∀ q, s.heap.size ≤ q → va_A w0 s.heap.size q) (σ : Mem) (x1 : Int32) (hc : CInv nr nx wy T σ) (hf : f_X3_takeFirstFor σ x1 = X) (H : Heap) (locs : List Loc) (hG : wI D vwCl (va_A w0 s.heap.size) s.heap H locs (GW ad cs nr nx σ)) (ls : Array Slot) (hl : lv_has ls 4 [(0, .ref (ad 6)), (1, .int x1)]) : W p l e ({ frames := 1, cells := 0, slots := 0, locals := 22 } : Room) s m args below meth c H locs 0 0 (MQ below (va_Qi (fun (r : Int32) (u : Mem) => (r, u) = X ∧ CInv nr nx wy T u) (fun u t => wPost D vwCl w0 s.heap.size ((fun u => GW ad cs nr nx u) u) t) (va_A w0 s.heap.size)) args s 0 0 (va_A w0 s.heap.size)) (F0 m 0 ls []) := by
  have hinX3 := in_X3_takeFirstFor_X3
  unfold f_X3_takeFirstFor at hf
  refine lv_iconst (v := 0) S.1 S.2.1 dX3_takeFirstFor_0 (by decide) ?_
  refine lv_istore_n (lv' := [(2, .int 0), (0, .ref (ad 6)), (1, .int x1)]) S.1 S.2.1 dX3_takeFirstFor_1 rfl hl (by decide) rfl (fun ls hl => ?_)
  exact b_X3_takeFirstFor_2 S hr hlocks hK hA 61 σ x1 0 (hc) (⟨0, rfl, by omega, by omega⟩) hf H locs hG ls (lv_sub hl [1, 2, 0] rfl)
theorem k_X3_takeFirstFor (l : Launch) (D : va_G) (cs : Nat → ClassId) (ad : Nat → Nat) (nr nx : Nat) (σ : Mem) (x1 : Int32) {wy : Int32} {T : Mem} (hc : CInv nr nx wy T σ) : CMi l yX3_takeFirstFor wsX3_takeFirstFor ({ frames := 1, cells := 0, slots := 0, locals := 22 } : Room) D vwCl (gT cs) (GW ad cs nr nx σ) [.ref (ad 6), .int x1] (fun (r : Int32) (u : Mem) => (r, u) = (f_X3_takeFirstFor σ x1) ∧ CInv nr nx wy T u) (fun u => GW ad cs nr nx u) :=
  r_met (by decide) rfl (Nat.le_of_ble_eq_true rfl) (fun p e s m args below meth c ls S hr hlocks _ hK hA hG hl => b_X3_takeFirstFor_0 S hr hlocks hK hA σ x1 hc rfl _ _ hG ls hl)
theorem in_X1_keep_X1 : ∀ w ∈ wsX10, w ∈ wsX1_keep := by decide +kernel
def f_X1_keep (σ : Mem) (x1 : Int32) (x2 : Int32) (x3 : Int32) : Mem :=
  (if (σ 7 3) < 30 then
  bnd (mset σ 10 (σ 7 3).toNatClampNeg x1) fun σ1 =>
  bnd (mset σ1 11 (σ 7 3).toNatClampNeg x2) fun σ2 =>
  bnd (mset σ2 12 (σ 7 3).toNatClampNeg x3) fun σ3 =>
  bnd (mset σ3 7 3 ((σ 7 3) + 1)) fun σ4 =>
  σ4
  else
  σ)
set_option maxRecDepth 100000 in
set_option maxHeartbeats 4000000 in
theorem b_X1_keep_0 {p : Program} {l : Launch} {e : Env} {s : State} {m : MethodId} {args : Array Value} {below : List Frame} {meth : Method} {c : Code} {D : va_G} {cs : Nat → ClassId} {ad : Nat → Nat} {nr nx : Nat} {wy : Int32} {T : Mem} {w0 : va_W} {X : Mem} (S : CallFix p m c cX1_keep 4 s args wsX1_keep RX1) (hr : meth.sig.returnType = none) (hlocks : meth.locks = false) (hK : va_K D vwCl (gT cs) s) (hA : ∀ q, s.heap.size ≤ q → va_A w0 s.heap.size q) (σ : Mem) (x1 : Int32) (x2 : Int32) (x3 : Int32) (hc : CInv nr nx wy T σ) (hf : f_X1_keep σ x1 x2 x3 = X) (H : Heap) (locs : List Loc) (hG : wI D vwCl (va_A w0 s.heap.size) s.heap H locs (GW ad cs nr nx σ)) (ls : Array Slot) (hl : lv_has ls 4 [(0, .ref (ad 7)), (1, .int x1), (2, .int x2), (3, .int x3)]) : W p l e ({ frames := 0, cells := 0, slots := 0, locals := 0 } : Room) s m args below meth c H locs 0 0 (MQ below (va_Qv (fun (u : Mem) => u = X ∧ CInv nr nx wy T u) (fun u t => wPost D vwCl w0 s.heap.size ((fun u => GW ad cs nr nx u) u) t) (va_A w0 s.heap.size)) args s 0 0 (va_A w0 s.heap.size)) (F0 m 0 ls []) := by
  have hinX1 := in_X1_keep_X1
  unfold f_X1_keep at hf
  have hq : CInv nr nx wy T σ := hc
  refine lv_aload_n S.1 S.2.1 dX1_keep_0 rfl (lv_at hl 0 rfl) ?_
  refine r_get S hK hG hinX1 7 rfl rfl 3 (by decide) (by decide +kernel) rfl dX1_keep_1 ?_
  refine lv_bipush (v := 30) S.1 S.2.1 dX1_keep_4 (by decide) ?_
  refine lv_icmp_lt (tgt := 10) S.1 S.2.1 dX1_keep_6 (by decide) (fun c_6 => ?_) (fun c_6 => ?_)
  · have hf := ite_p c_6 hf
    refine lv_aload_n S.1 S.2.1 dX1_keep_10 rfl (lv_at hl 0 rfl) ?_
    refine r_get S hK hG hinX1 7 rfl rfl 0 (by decide) (by decide +kernel) rfl dX1_keep_11 ?_
    refine lv_aload_n S.1 S.2.1 dX1_keep_14 rfl (lv_at hl 0 rfl) ?_
    refine r_get (v := .int (σ 7 3)) S hK hG hinX1 7 rfl rfl 3 (by decide) (by decide +kernel) rfl dX1_keep_15 ?_
    refine lv_iload_n S.1 S.2.1 dX1_keep_18 rfl (lv_at hl 1 rfl) ?_
    refine C_ast S hK hG 10 30 rfl (up_l hq.2.2.2.1 rfl (by decide) c_6).1 (GWs_10 _ _ _ _ _ _) dX1_keep_19 (fun σ1 H locs e_σ1 hG => ?_)
    have hf := bnd_p e_σ1 hf
    have hc := ci_row (by decide) e_σ1 hc
    refine lv_aload_n S.1 S.2.1 dX1_keep_20 rfl (lv_at hl 0 rfl) ?_
    refine r_get S hK hG hinX1 7 rfl rfl 1 (by decide) (by decide +kernel) rfl dX1_keep_21 ?_
    refine lv_aload_n S.1 S.2.1 dX1_keep_24 rfl (lv_at hl 0 rfl) ?_
    refine r_get (v := .int (σ 7 3)) S hK hG hinX1 7 rfl rfl 3 (by decide) (by decide +kernel) (by rw [e_σ1]; rfl) dX1_keep_25 ?_
    refine lv_iload_n S.1 S.2.1 dX1_keep_28 rfl (lv_at hl 2 rfl) ?_
    refine C_ast S hK hG 11 30 rfl (up_l hq.2.2.2.1 rfl (by decide) c_6).1 (GWs_11 _ _ _ _ _ _) dX1_keep_29 (fun σ2 H locs e_σ2 hG => ?_)
    have hf := bnd_p e_σ2 hf
    have hc := ci_row (by decide) e_σ2 hc
    refine lv_aload_n S.1 S.2.1 dX1_keep_30 rfl (lv_at hl 0 rfl) ?_
    refine r_get S hK hG hinX1 7 rfl rfl 2 (by decide) (by decide +kernel) rfl dX1_keep_31 ?_
    refine lv_aload_n S.1 S.2.1 dX1_keep_34 rfl (lv_at hl 0 rfl) ?_
    refine r_get (v := .int (σ 7 3)) S hK hG hinX1 7 rfl rfl 3 (by decide) (by decide +kernel) (by rw [e_σ2, e_σ1]; rfl) dX1_keep_35 ?_
    refine lv_iload_n S.1 S.2.1 dX1_keep_38 rfl (lv_at hl 3 rfl) ?_
    refine C_ast S hK hG 12 30 rfl (up_l hq.2.2.2.1 rfl (by decide) c_6).1 (GWs_12 _ _ _ _ _ _) dX1_keep_39 (fun σ3 H locs e_σ3 hG => ?_)
    have hf := bnd_p e_σ3 hf
    have hc := ci_row (by decide) e_σ3 hc
    refine lv_aload_n S.1 S.2.1 dX1_keep_40 rfl (lv_at hl 0 rfl) ?_
    refine lv_dup S.1 S.2.1 dX1_keep_41 rfl ?_
    refine r_get (v := .int (σ 7 3)) S hK hG hinX1 7 rfl rfl 3 (by decide) (by decide +kernel) (by rw [e_σ3, e_σ2, e_σ1]; rfl) dX1_keep_42 ?_
    refine lv_iconst (v := 1) S.1 S.2.1 dX1_keep_45 (by decide) ?_
    refine lv_iadd S.1 S.2.1 dX1_keep_46 ?_
    refine C_put S hK hG hinX1 tyX1 tyX1_ok nmX1 7 rfl rfl 3 (by decide) (by decide +kernel) rfl rfl rfl (Nat.le_of_ble_eq_true rfl) (GWp_7_3 _ _ _ _ _ _) dX1_keep_47 (fun σ4 H locs e_σ4 hG => ?_)
    have hf := bnd_p e_σ4 hf
    have hc := ci_f (up_l hq.2.2.2.1 rfl (by decide) c_6).2 e_σ4 hc
    exact r_vret S hr hlocks hG _ rfl ⟨hf, hc⟩ dX1_keep_50
  · have hf := ite_n c_6 hf
    exact r_vret S hr hlocks hG _ rfl ⟨hf, hc⟩ dX1_keep_9
theorem k_X1_keep (l : Launch) (D : va_G) (cs : Nat → ClassId) (ad : Nat → Nat) (nr nx : Nat) (σ : Mem) (x1 : Int32) (x2 : Int32) (x3 : Int32) {wy : Int32} {T : Mem} (hc : CInv nr nx wy T σ) : CMv l yX1_keep wsX1_keep ({ frames := 0, cells := 0, slots := 0, locals := 0 } : Room) D vwCl (gT cs) (GW ad cs nr nx σ) [.ref (ad 7), .int x1, .int x2, .int x3] (fun (u : Mem) => u = (f_X1_keep σ x1 x2 x3) ∧ CInv nr nx wy T u) (fun u => GW ad cs nr nx u) :=
  r_met (by decide) rfl (Nat.le_of_ble_eq_true rfl) (fun p e s m args below meth c ls S hr hlocks _ hK hA hG hl => b_X1_keep_0 S hr hlocks hK hA σ x1 x2 x3 hc rfl _ _ hG ls hl)
theorem in_X1_has_X1 : ∀ w ∈ wsX10, w ∈ wsX1_has := by decide +kernel
def f_X1_has (σ : Mem) (x1 : Int32) : Bool :=
  (if x1 < 0 then
  false
  else
  (if (σ 7 3) ≤ x1 then
  false
  else
  (if 30 ≤ x1 then
  false
  else
  true)))
set_option maxRecDepth 100000 in
set_option maxHeartbeats 4000000 in
theorem b_X1_has_0 {p : Program} {l : Launch} {e : Env} {s : State} {m : MethodId} {args : Array Value} {below : List Frame} {meth : Method} {c : Code} {D : va_G} {cs : Nat → ClassId} {ad : Nat → Nat} {nr nx : Nat} {wy : Int32} {T : Mem} {w0 : va_W} {X : Bool} (S : CallFix p m c cX1_has 2 s args wsX1_has RX1) (hr : meth.sig.returnType = (some .boolean)) (hlocks : meth.locks = false) (hK : va_K D vwCl (gT cs) s) (hA : ∀ q, s.heap.size ≤ q → va_A w0 s.heap.size q) (σ : Mem) (x1 : Int32) (hc : CInv nr nx wy T σ) (hf : f_X1_has σ x1 = X) (H : Heap) (locs : List Loc) (hG : wI D vwCl (va_A w0 s.heap.size) s.heap H locs (GW ad cs nr nx σ)) (ls : Array Slot) (hl : lv_has ls 2 [(0, .ref (ad 7)), (1, .int x1)]) : W p l e ({ frames := 0, cells := 0, slots := 0, locals := 0 } : Room) s m args below meth c H locs 0 0 (MQ below (va_Qi (fun (r : Int32) (_ : Unit) => r = bI X) (fun u t => wPost D vwCl w0 s.heap.size ((fun _ => GW ad cs nr nx σ) u) t) (va_A w0 s.heap.size)) args s 0 0 (va_A w0 s.heap.size)) (F0 m 0 ls []) := by
  have hinX1 := in_X1_has_X1
  unfold f_X1_has at hf
  refine lv_iload_n S.1 S.2.1 dX1_has_0 rfl (lv_at hl 1 rfl) ?_
  refine lv_if_lt (tgt := 22) S.1 S.2.1 dX1_has_1 (by decide) (fun c_1 => ?_) (fun c_1 => ?_)
  · have hf := ite_p c_1 hf
    refine lv_iconst (v := 0) S.1 S.2.1 dX1_has_22 (by decide) ?_
    exact r_iret S hr hlocks hG () rfl (congrArg bI hf) (bI_nar false) dX1_has_23
  · have hf := ite_n c_1 hf
    refine lv_iload_n S.1 S.2.1 dX1_has_4 rfl (lv_at hl 1 rfl) ?_
    refine lv_aload_n S.1 S.2.1 dX1_has_5 rfl (lv_at hl 0 rfl) ?_
    refine r_get S hK hG hinX1 7 rfl rfl 3 (by decide) (by decide +kernel) rfl dX1_has_6 ?_
    refine lv_icmp_ge (tgt := 22) S.1 S.2.1 dX1_has_9 (by decide) (fun c_9 => ?_) (fun c_9 => ?_)
    · have hf := ite_p c_9 hf
      refine lv_iconst (v := 0) S.1 S.2.1 dX1_has_22 (by decide) ?_
      exact r_iret S hr hlocks hG () rfl (congrArg bI hf) (bI_nar false) dX1_has_23
    · have hf := ite_n c_9 hf
      refine lv_iload_n S.1 S.2.1 dX1_has_12 rfl (lv_at hl 1 rfl) ?_
      refine lv_bipush (v := 30) S.1 S.2.1 dX1_has_13 (by decide) ?_
      refine lv_icmp_ge (tgt := 22) S.1 S.2.1 dX1_has_15 (by decide) (fun c_15 => ?_) (fun c_15 => ?_)
      · have hf := ite_p c_15 hf
        refine lv_iconst (v := 0) S.1 S.2.1 dX1_has_22 (by decide) ?_
        exact r_iret S hr hlocks hG () rfl (congrArg bI hf) (bI_nar false) dX1_has_23
      · have hf := ite_n c_15 hf
        refine lv_iconst (v := 1) S.1 S.2.1 dX1_has_18 (by decide) ?_
        refine lv_goto (tgt := 23) S.1 S.2.1 dX1_has_19 (by decide) ?_
        exact r_iret S hr hlocks hG () rfl (congrArg bI hf) (bI_nar true) dX1_has_23
theorem k_X1_has (l : Launch) (D : va_G) (cs : Nat → ClassId) (ad : Nat → Nat) (nr nx : Nat) (σ : Mem) (x1 : Int32) {wy : Int32} {T : Mem} (hc : CInv nr nx wy T σ) : CMi l yX1_has wsX1_has ({ frames := 0, cells := 0, slots := 0, locals := 0 } : Room) D vwCl (gT cs) (GW ad cs nr nx σ) [.ref (ad 7), .int x1] (fun (r : Int32) (_ : Unit) => r = bI (f_X1_has σ x1)) (fun _ => GW ad cs nr nx σ) :=
  r_met (by decide) rfl (Nat.le_of_ble_eq_true rfl) (fun p e s m args below meth c ls S hr hlocks _ hK hA hG hl => b_X1_has_0 S hr hlocks hK hA σ x1 hc rfl _ _ hG ls hl)
theorem has_vp {σ : Mem} {x : Int32} (h : ¬ bI (f_X1_has σ x) = 0) : vp_in x 30 := by
  have h := bI_t h
  unfold f_X1_has at h
  by_cases h1 : x < 0
  · rw [if_pos h1] at h; cases h
  · rw [if_neg h1] at h
    by_cases h2 : σ 7 3 ≤ x
    · rw [if_pos h2] at h; cases h
    · rw [if_neg h2] at h
      by_cases h3 : 30 ≤ x
      · rw [if_pos h3] at h; cases h
      · exact vp_lh h1 h3 (by decide)
theorem in_X1_actAt_X1 : ∀ w ∈ wsX10, w ∈ wsX1_actAt := by decide +kernel
def f_X1_actAt (σ : Mem) (x1 : Int32) : Int32 :=
  (if (bI (f_X1_has σ x1)) = 0 then
  (-1)
  else
  σ 10 x1.toNatClampNeg)
set_option maxRecDepth 100000 in
set_option maxHeartbeats 4000000 in
theorem b_X1_actAt_0 {p : Program} {l : Launch} {e : Env} {s : State} {m : MethodId} {args : Array Value} {below : List Frame} {meth : Method} {c : Code} {D : va_G} {cs : Nat → ClassId} {ad : Nat → Nat} {nr nx : Nat} {wy : Int32} {T : Mem} {w0 : va_W} {X : Int32} (S : CallFix p m c cX1_actAt 2 s args wsX1_actAt RX1) (hr : meth.sig.returnType = (some .int)) (hlocks : meth.locks = false) (hK : va_K D vwCl (gT cs) s) (hA : ∀ q, s.heap.size ≤ q → va_A w0 s.heap.size q) (σ : Mem) (x1 : Int32) (hc : CInv nr nx wy T σ) (hf : f_X1_actAt σ x1 = X) (H : Heap) (locs : List Loc) (hG : wI D vwCl (va_A w0 s.heap.size) s.heap H locs (GW ad cs nr nx σ)) (ls : Array Slot) (hl : lv_has ls 2 [(0, .ref (ad 7)), (1, .int x1)]) : W p l e ({ frames := 1, cells := 0, slots := 0, locals := 21 } : Room) s m args below meth c H locs 0 0 (MQ below (va_Qi (fun (r : Int32) (_ : Unit) => r = X) (fun u t => wPost D vwCl w0 s.heap.size ((fun _ => GW ad cs nr nx σ) u) t) (va_A w0 s.heap.size)) args s 0 0 (va_A w0 s.heap.size)) (F0 m 0 ls []) := by
  have hinX1 := in_X1_actAt_X1
  unfold f_X1_actAt at hf
  refine lv_aload_n S.1 S.2.1 dX1_actAt_0 rfl (lv_at hl 0 rfl) ?_
  refine lv_iload_n S.1 S.2.1 dX1_actAt_1 rfl (lv_at hl 1 rfl) ?_
  refine r_callVi S hK hA hG (k_X1_has l _ _ _ _ _ _ _ hc) (cwV 1 S.2.2.2.2 gX1_actAt_X1_has rfl rfl rfl (by decide +kernel) ⟨Nat.le_of_ble_eq_true rfl, Nat.le_of_ble_eq_true rfl⟩) (va_recv hK hG.1 (ci := 1) (q0 := 7) rfl rfl) rfl hl.1 rfl (Nat.le_of_ble_eq_true rfl) dX1_actAt_2 ⟨Nat.le_of_ble_eq_true rfl, Nat.le_of_ble_eq_true rfl⟩ (fun r2 _ H locs hw hG => ?_)
  obtain rfl := hw
  refine lv_if_eq (tgt := 17) S.1 S.2.1 dX1_actAt_5 (by decide) (fun c_5 => ?_) (fun c_5 => ?_)
  · have hf := ite_p c_5 hf
    refine lv_iconst (v := (-1)) S.1 S.2.1 dX1_actAt_17 (by decide) ?_
    exact r_iret S hr hlocks hG () rfl hf rfl dX1_actAt_18
  · have hf := ite_n c_5 hf
    refine lv_aload_n S.1 S.2.1 dX1_actAt_8 rfl (lv_at hl 0 rfl) ?_
    refine r_get S hK hG hinX1 7 rfl rfl 0 (by decide) (by decide +kernel) rfl dX1_actAt_9 ?_
    refine lv_iload_n S.1 S.2.1 dX1_actAt_12 rfl (lv_at hl 1 rfl) ?_
    refine r_iald S hK hG 10 0 rfl rfl (has_vp c_5) dX1_actAt_13 ?_
    refine lv_goto (tgt := 18) S.1 S.2.1 dX1_actAt_14 (by decide) ?_
    exact r_iret S hr hlocks hG () rfl hf rfl dX1_actAt_18
theorem k_X1_actAt (l : Launch) (D : va_G) (cs : Nat → ClassId) (ad : Nat → Nat) (nr nx : Nat) (σ : Mem) (x1 : Int32) {wy : Int32} {T : Mem} (hc : CInv nr nx wy T σ) : CMi l yX1_actAt wsX1_actAt ({ frames := 1, cells := 0, slots := 0, locals := 21 } : Room) D vwCl (gT cs) (GW ad cs nr nx σ) [.ref (ad 7), .int x1] (fun (r : Int32) (_ : Unit) => r = (f_X1_actAt σ x1)) (fun _ => GW ad cs nr nx σ) :=
  r_met (by decide) rfl (Nat.le_of_ble_eq_true rfl) (fun p e s m args below meth c ls S hr hlocks _ hK hA hG hl => b_X1_actAt_0 S hr hlocks hK hA σ x1 hc rfl _ _ hG ls hl)
theorem in_X1_failureAt_X1 : ∀ w ∈ wsX10, w ∈ wsX1_failureAt := by decide +kernel
def f_X1_failureAt (σ : Mem) (x1 : Int32) : Int32 :=
  (if (bI (f_X1_has σ x1)) = 0 then
  (-1)
  else
  σ 11 x1.toNatClampNeg)
set_option maxRecDepth 100000 in
set_option maxHeartbeats 4000000 in
theorem b_X1_failureAt_0 {p : Program} {l : Launch} {e : Env} {s : State} {m : MethodId} {args : Array Value} {below : List Frame} {meth : Method} {c : Code} {D : va_G} {cs : Nat → ClassId} {ad : Nat → Nat} {nr nx : Nat} {wy : Int32} {T : Mem} {w0 : va_W} {X : Int32} (S : CallFix p m c cX1_failureAt 2 s args wsX1_failureAt RX1) (hr : meth.sig.returnType = (some .int)) (hlocks : meth.locks = false) (hK : va_K D vwCl (gT cs) s) (hA : ∀ q, s.heap.size ≤ q → va_A w0 s.heap.size q) (σ : Mem) (x1 : Int32) (hc : CInv nr nx wy T σ) (hf : f_X1_failureAt σ x1 = X) (H : Heap) (locs : List Loc) (hG : wI D vwCl (va_A w0 s.heap.size) s.heap H locs (GW ad cs nr nx σ)) (ls : Array Slot) (hl : lv_has ls 2 [(0, .ref (ad 7)), (1, .int x1)]) : W p l e ({ frames := 1, cells := 0, slots := 0, locals := 21 } : Room) s m args below meth c H locs 0 0 (MQ below (va_Qi (fun (r : Int32) (_ : Unit) => r = X) (fun u t => wPost D vwCl w0 s.heap.size ((fun _ => GW ad cs nr nx σ) u) t) (va_A w0 s.heap.size)) args s 0 0 (va_A w0 s.heap.size)) (F0 m 0 ls []) := by
  have hinX1 := in_X1_failureAt_X1
  unfold f_X1_failureAt at hf
  refine lv_aload_n S.1 S.2.1 dX1_failureAt_0 rfl (lv_at hl 0 rfl) ?_
  refine lv_iload_n S.1 S.2.1 dX1_failureAt_1 rfl (lv_at hl 1 rfl) ?_
  refine r_callVi S hK hA hG (k_X1_has l _ _ _ _ _ _ _ hc) (cwV 1 S.2.2.2.2 gX1_failureAt_X1_has rfl rfl rfl (by decide +kernel) ⟨Nat.le_of_ble_eq_true rfl, Nat.le_of_ble_eq_true rfl⟩) (va_recv hK hG.1 (ci := 1) (q0 := 7) rfl rfl) rfl hl.1 rfl (Nat.le_of_ble_eq_true rfl) dX1_failureAt_2 ⟨Nat.le_of_ble_eq_true rfl, Nat.le_of_ble_eq_true rfl⟩ (fun r2 _ H locs hw hG => ?_)
  obtain rfl := hw
  refine lv_if_eq (tgt := 17) S.1 S.2.1 dX1_failureAt_5 (by decide) (fun c_5 => ?_) (fun c_5 => ?_)
  · have hf := ite_p c_5 hf
    refine lv_iconst (v := (-1)) S.1 S.2.1 dX1_failureAt_17 (by decide) ?_
    exact r_iret S hr hlocks hG () rfl hf rfl dX1_failureAt_18
  · have hf := ite_n c_5 hf
    refine lv_aload_n S.1 S.2.1 dX1_failureAt_8 rfl (lv_at hl 0 rfl) ?_
    refine r_get S hK hG hinX1 7 rfl rfl 1 (by decide) (by decide +kernel) rfl dX1_failureAt_9 ?_
    refine lv_iload_n S.1 S.2.1 dX1_failureAt_12 rfl (lv_at hl 1 rfl) ?_
    refine r_iald S hK hG 11 0 rfl rfl (has_vp c_5) dX1_failureAt_13 ?_
    refine lv_goto (tgt := 18) S.1 S.2.1 dX1_failureAt_14 (by decide) ?_
    exact r_iret S hr hlocks hG () rfl hf rfl dX1_failureAt_18
theorem k_X1_failureAt (l : Launch) (D : va_G) (cs : Nat → ClassId) (ad : Nat → Nat) (nr nx : Nat) (σ : Mem) (x1 : Int32) {wy : Int32} {T : Mem} (hc : CInv nr nx wy T σ) : CMi l yX1_failureAt wsX1_failureAt ({ frames := 1, cells := 0, slots := 0, locals := 21 } : Room) D vwCl (gT cs) (GW ad cs nr nx σ) [.ref (ad 7), .int x1] (fun (r : Int32) (_ : Unit) => r = (f_X1_failureAt σ x1)) (fun _ => GW ad cs nr nx σ) :=
  r_met (by decide) rfl (Nat.le_of_ble_eq_true rfl) (fun p e s m args below meth c ls S hr hlocks _ hK hA hG hl => b_X1_failureAt_0 S hr hlocks hK hA σ x1 hc rfl _ _ hG ls hl)
theorem in_X1_timeAt_X1 : ∀ w ∈ wsX10, w ∈ wsX1_timeAt := by decide +kernel
def f_X1_timeAt (σ : Mem) (x1 : Int32) : Int32 :=
  (if (bI (f_X1_has σ x1)) = 0 then
  (-1)
  else
  σ 12 x1.toNatClampNeg)
set_option maxRecDepth 100000 in
set_option maxHeartbeats 4000000 in
theorem b_X1_timeAt_0 {p : Program} {l : Launch} {e : Env} {s : State} {m : MethodId} {args : Array Value} {below : List Frame} {meth : Method} {c : Code} {D : va_G} {cs : Nat → ClassId} {ad : Nat → Nat} {nr nx : Nat} {wy : Int32} {T : Mem} {w0 : va_W} {X : Int32} (S : CallFix p m c cX1_timeAt 2 s args wsX1_timeAt RX1) (hr : meth.sig.returnType = (some .int)) (hlocks : meth.locks = false) (hK : va_K D vwCl (gT cs) s) (hA : ∀ q, s.heap.size ≤ q → va_A w0 s.heap.size q) (σ : Mem) (x1 : Int32) (hc : CInv nr nx wy T σ) (hf : f_X1_timeAt σ x1 = X) (H : Heap) (locs : List Loc) (hG : wI D vwCl (va_A w0 s.heap.size) s.heap H locs (GW ad cs nr nx σ)) (ls : Array Slot) (hl : lv_has ls 2 [(0, .ref (ad 7)), (1, .int x1)]) : W p l e ({ frames := 1, cells := 0, slots := 0, locals := 21 } : Room) s m args below meth c H locs 0 0 (MQ below (va_Qi (fun (r : Int32) (_ : Unit) => r = X) (fun u t => wPost D vwCl w0 s.heap.size ((fun _ => GW ad cs nr nx σ) u) t) (va_A w0 s.heap.size)) args s 0 0 (va_A w0 s.heap.size)) (F0 m 0 ls []) := by
  have hinX1 := in_X1_timeAt_X1
  unfold f_X1_timeAt at hf
  refine lv_aload_n S.1 S.2.1 dX1_timeAt_0 rfl (lv_at hl 0 rfl) ?_
  refine lv_iload_n S.1 S.2.1 dX1_timeAt_1 rfl (lv_at hl 1 rfl) ?_
  refine r_callVi S hK hA hG (k_X1_has l _ _ _ _ _ _ _ hc) (cwV 1 S.2.2.2.2 gX1_timeAt_X1_has rfl rfl rfl (by decide +kernel) ⟨Nat.le_of_ble_eq_true rfl, Nat.le_of_ble_eq_true rfl⟩) (va_recv hK hG.1 (ci := 1) (q0 := 7) rfl rfl) rfl hl.1 rfl (Nat.le_of_ble_eq_true rfl) dX1_timeAt_2 ⟨Nat.le_of_ble_eq_true rfl, Nat.le_of_ble_eq_true rfl⟩ (fun r2 _ H locs hw hG => ?_)
  obtain rfl := hw
  refine lv_if_eq (tgt := 17) S.1 S.2.1 dX1_timeAt_5 (by decide) (fun c_5 => ?_) (fun c_5 => ?_)
  · have hf := ite_p c_5 hf
    refine lv_iconst (v := (-1)) S.1 S.2.1 dX1_timeAt_17 (by decide) ?_
    exact r_iret S hr hlocks hG () rfl hf rfl dX1_timeAt_18
  · have hf := ite_n c_5 hf
    refine lv_aload_n S.1 S.2.1 dX1_timeAt_8 rfl (lv_at hl 0 rfl) ?_
    refine r_get S hK hG hinX1 7 rfl rfl 2 (by decide) (by decide +kernel) rfl dX1_timeAt_9 ?_
    refine lv_iload_n S.1 S.2.1 dX1_timeAt_12 rfl (lv_at hl 1 rfl) ?_
    refine r_iald S hK hG 12 0 rfl rfl (has_vp c_5) dX1_timeAt_13 ?_
    refine lv_goto (tgt := 18) S.1 S.2.1 dX1_timeAt_14 (by decide) ?_
    exact r_iret S hr hlocks hG () rfl hf rfl dX1_timeAt_18
theorem k_X1_timeAt (l : Launch) (D : va_G) (cs : Nat → ClassId) (ad : Nat → Nat) (nr nx : Nat) (σ : Mem) (x1 : Int32) {wy : Int32} {T : Mem} (hc : CInv nr nx wy T σ) : CMi l yX1_timeAt wsX1_timeAt ({ frames := 1, cells := 0, slots := 0, locals := 21 } : Room) D vwCl (gT cs) (GW ad cs nr nx σ) [.ref (ad 7), .int x1] (fun (r : Int32) (_ : Unit) => r = (f_X1_timeAt σ x1)) (fun _ => GW ad cs nr nx σ) :=
  r_met (by decide) rfl (Nat.le_of_ble_eq_true rfl) (fun p e s m args below meth c ls S hr hlocks _ hK hA hG hl => b_X1_timeAt_0 S hr hlocks hK hA σ x1 hc rfl _ _ hG ls hl)
theorem in_X4_failed_X4 : ∀ w ∈ wsX40, w ∈ wsX4_failed := by decide +kernel
def f_X4_failed (σ : Mem) (x1 : Int32) (x2 : Int32) : Int32 :=
  (if x2 = 0 then
  f_X1_actAt σ x1
  else
  (if x2 = 1 then
  f_X1_failureAt σ x1
  else
  (if x2 = 2 then
  f_X1_timeAt σ x1
  else
  (-3))))
set_option maxRecDepth 100000 in
set_option maxHeartbeats 4000000 in
theorem b_X4_failed_0 {p : Program} {l : Launch} {e : Env} {s : State} {m : MethodId} {args : Array Value} {below : List Frame} {meth : Method} {c : Code} {D : va_G} {cs : Nat → ClassId} {ad : Nat → Nat} {nr nx : Nat} {wy : Int32} {T : Mem} {w0 : va_W} {X : Int32} (S : CallFix p m c cX4_failed 3 s args wsX4_failed RX4) (hr : meth.sig.returnType = (some .int)) (hlocks : meth.locks = false) (hK : va_K D vwCl (gT cs) s) (hA : ∀ q, s.heap.size ≤ q → va_A w0 s.heap.size q) (σ : Mem) (x1 : Int32) (x2 : Int32) (hc : CInv nr nx wy T σ) (hf : f_X4_failed σ x1 x2 = X) (H : Heap) (locs : List Loc) (hG : wI D vwCl (va_A w0 s.heap.size) s.heap H locs (GW ad cs nr nx σ)) (ls : Array Slot) (hl : lv_has ls 3 [(0, .ref (ad 0)), (1, .int x1), (2, .int x2)]) : W p l e ({ frames := 2, cells := 0, slots := 0, locals := 42 } : Room) s m args below meth c H locs 0 0 (MQ below (va_Qi (fun (r : Int32) (_ : Unit) => r = X) (fun u t => wPost D vwCl w0 s.heap.size ((fun _ => GW ad cs nr nx σ) u) t) (va_A w0 s.heap.size)) args s 0 0 (va_A w0 s.heap.size)) (F0 m 0 ls []) := by
  have hinX4 := in_X4_failed_X4
  unfold f_X4_failed at hf
  refine lv_iload_n S.1 S.2.1 dX4_failed_0 rfl (lv_at hl 2 rfl) ?_
  refine (Decidable.em (x2 = 0)).elim (fun c_1_0 => ?_) (fun c_1_0 => ?_)
  · have hf := ite_p c_1_0 hf
    refine lv_tableIn (off := 27) (tgt := 28) S.1 S.2.1 dX4_failed_1 (by rw [c_1_0]; decide) (by rw [c_1_0]; decide) (by rw [c_1_0]; rfl) (by decide) ?_
    refine lv_aload_n S.1 S.2.1 dX4_failed_28 rfl (lv_at hl 0 rfl) ?_
    refine r_get S hK hG hinX4 0 rfl rfl 6 (by decide) (by decide +kernel) rfl dX4_failed_29 ?_
    refine lv_iload_n S.1 S.2.1 dX4_failed_32 rfl (lv_at hl 1 rfl) ?_
    refine r_callVi S hK hA hG (k_X1_actAt l _ _ _ _ _ _ _ hc) (cwV 1 S.2.2.2.2 gX4_failed_X1_actAt rfl rfl rfl (by decide +kernel) ⟨Nat.le_of_ble_eq_true rfl, Nat.le_of_ble_eq_true rfl⟩) (va_recv hK hG.1 (ci := 1) (q0 := 7) rfl rfl) rfl hl.1 rfl (Nat.le_of_ble_eq_true rfl) dX4_failed_33 ⟨Nat.le_of_ble_eq_true rfl, Nat.le_of_ble_eq_true rfl⟩ (fun r33 _ H locs hw hG => ?_)
    obtain rfl := hw
    exact r_iret S hr hlocks hG () rfl hf rfl dX4_failed_36
  have hf := ite_n c_1_0 hf
  refine (Decidable.em (x2 = 1)).elim (fun c_1_1 => ?_) (fun c_1_1 => ?_)
  · have hf := ite_p c_1_1 hf
    refine lv_tableIn (off := 36) (tgt := 37) S.1 S.2.1 dX4_failed_1 (by rw [c_1_1]; decide) (by rw [c_1_1]; decide) (by rw [c_1_1]; rfl) (by decide) ?_
    refine lv_aload_n S.1 S.2.1 dX4_failed_37 rfl (lv_at hl 0 rfl) ?_
    refine r_get S hK hG hinX4 0 rfl rfl 6 (by decide) (by decide +kernel) rfl dX4_failed_38 ?_
    refine lv_iload_n S.1 S.2.1 dX4_failed_41 rfl (lv_at hl 1 rfl) ?_
    refine r_callVi S hK hA hG (k_X1_failureAt l _ _ _ _ _ _ _ hc) (cwV 1 S.2.2.2.2 gX4_failed_X1_failureAt rfl rfl rfl (by decide +kernel) ⟨Nat.le_of_ble_eq_true rfl, Nat.le_of_ble_eq_true rfl⟩) (va_recv hK hG.1 (ci := 1) (q0 := 7) rfl rfl) rfl hl.1 rfl (Nat.le_of_ble_eq_true rfl) dX4_failed_42 ⟨Nat.le_of_ble_eq_true rfl, Nat.le_of_ble_eq_true rfl⟩ (fun r42 _ H locs hw hG => ?_)
    obtain rfl := hw
    exact r_iret S hr hlocks hG () rfl hf rfl dX4_failed_45
  have hf := ite_n c_1_1 hf
  refine (Decidable.em (x2 = 2)).elim (fun c_1_2 => ?_) (fun c_1_2 => ?_)
  · have hf := ite_p c_1_2 hf
    refine lv_tableIn (off := 45) (tgt := 46) S.1 S.2.1 dX4_failed_1 (by rw [c_1_2]; decide) (by rw [c_1_2]; decide) (by rw [c_1_2]; rfl) (by decide) ?_
    refine lv_aload_n S.1 S.2.1 dX4_failed_46 rfl (lv_at hl 0 rfl) ?_
    refine r_get S hK hG hinX4 0 rfl rfl 6 (by decide) (by decide +kernel) rfl dX4_failed_47 ?_
    refine lv_iload_n S.1 S.2.1 dX4_failed_50 rfl (lv_at hl 1 rfl) ?_
    refine r_callVi S hK hA hG (k_X1_timeAt l _ _ _ _ _ _ _ hc) (cwV 1 S.2.2.2.2 gX4_failed_X1_timeAt rfl rfl rfl (by decide +kernel) ⟨Nat.le_of_ble_eq_true rfl, Nat.le_of_ble_eq_true rfl⟩) (va_recv hK hG.1 (ci := 1) (q0 := 7) rfl rfl) rfl hl.1 rfl (Nat.le_of_ble_eq_true rfl) dX4_failed_51 ⟨Nat.le_of_ble_eq_true rfl, Nat.le_of_ble_eq_true rfl⟩ (fun r51 _ H locs hw hG => ?_)
    obtain rfl := hw
    exact r_iret S hr hlocks hG () rfl hf rfl dX4_failed_54
  have hf := ite_n c_1_2 hf
  refine lv_tableOut (tgt := 55) S.1 S.2.1 dX4_failed_1 (by have h0 := sw_ne (z := 0) rfl c_1_0; have h1 := sw_ne (z := 1) rfl c_1_1; have h2 := sw_ne (z := 2) rfl c_1_2; omega) (by decide) ?_
  refine lv_bipush (v := (-3)) S.1 S.2.1 dX4_failed_55 (by decide) ?_
  exact r_iret S hr hlocks hG () rfl hf rfl dX4_failed_57
theorem k_X4_failed (l : Launch) (D : va_G) (cs : Nat → ClassId) (ad : Nat → Nat) (nr nx : Nat) (σ : Mem) (x1 : Int32) (x2 : Int32) {wy : Int32} {T : Mem} (hc : CInv nr nx wy T σ) : CMi l yX4_failed wsX4_failed ({ frames := 2, cells := 0, slots := 0, locals := 42 } : Room) D vwCl (gT cs) (GW ad cs nr nx σ) [.ref (ad 0), .int x1, .int x2] (fun (r : Int32) (_ : Unit) => r = (f_X4_failed σ x1 x2)) (fun _ => GW ad cs nr nx σ) :=
  r_met (by decide) rfl (Nat.le_of_ble_eq_true rfl) (fun p e s m args below meth c ls S hr hlocks _ hK hA hG hl => b_X4_failed_0 S hr hlocks hK hA σ x1 x2 hc rfl _ _ hG ls hl)
theorem in_X4_takesOut_X4 : ∀ w ∈ wsX40, w ∈ wsX4_takesOut := by decide +kernel
def f_X4_takesOut (σ : Mem) (x1 : Int32) (x2 : Int32) : Bool × Mem :=
  (if (bI (f_X4_isTank x1)) = 0 then
  bnd (mset σ 0 13 3) fun σ1 =>
  (false, σ1)
  else
  (if x2 ≤ (σ 2 x1.toNatClampNeg) then
  bnd (mset σ 2 x1.toNatClampNeg ((σ 2 x1.toNatClampNeg) - x2)) fun σ2 =>
  (true, σ2)
  else
  bnd (mset σ 0 13 3) fun σ3 =>
  (false, σ3)))
set_option maxRecDepth 100000 in
set_option maxHeartbeats 4000000 in
theorem b_X4_takesOut_0 {p : Program} {l : Launch} {e : Env} {s : State} {m : MethodId} {args : Array Value} {below : List Frame} {meth : Method} {c : Code} {D : va_G} {cs : Nat → ClassId} {ad : Nat → Nat} {nr nx : Nat} {wy : Int32} {T : Mem} {w0 : va_W} {X : Bool × Mem} (S : CallFix p m c cX4_takesOut 3 s args wsX4_takesOut RX4) (hr : meth.sig.returnType = (some .boolean)) (hlocks : meth.locks = false) (hK : va_K D vwCl (gT cs) s) (hA : ∀ q, s.heap.size ≤ q → va_A w0 s.heap.size q) (σ : Mem) (x1 : Int32) (x2 : Int32) (hc : CInv nr nx wy T σ) (hf : f_X4_takesOut σ x1 x2 = X) (H : Heap) (locs : List Loc) (hG : wI D vwCl (va_A w0 s.heap.size) s.heap H locs (GW ad cs nr nx σ)) (ls : Array Slot) (hl : lv_has ls 3 [(0, .ref (ad 0)), (1, .int x1), (2, .int x2)]) : W p l e ({ frames := 1, cells := 0, slots := 0, locals := 20 } : Room) s m args below meth c H locs 0 0 (MQ below (va_Qi (fun (r : Int32) (u : Mem) => (∃ b, r = bI b ∧ (b, u) = X) ∧ CInv nr nx wy T u) (fun u t => wPost D vwCl w0 s.heap.size ((fun u => GW ad cs nr nx u) u) t) (va_A w0 s.heap.size)) args s 0 0 (va_A w0 s.heap.size)) (F0 m 0 ls []) := by
  have hinX4 := in_X4_takesOut_X4
  unfold f_X4_takesOut at hf
  refine lv_iload_n S.1 S.2.1 dX4_takesOut_0 rfl (lv_at hl 1 rfl) ?_
  refine r_callSi S hK hA hG (k_X4_isTank l _ _ _ _ _) (cwS 1 S.2.2.2.2 gX4_takesOut_X4_isTank rfl rfl rfl (by decide +kernel) ⟨Nat.le_of_ble_eq_true rfl, Nat.le_of_ble_eq_true rfl⟩) rfl hl.1 rfl (Nat.le_of_ble_eq_true rfl) dX4_takesOut_1 ⟨Nat.le_of_ble_eq_true rfl, Nat.le_of_ble_eq_true rfl⟩ (fun r1 _ H locs hw hG => ?_)
  obtain rfl := hw
  refine lv_if_eq (tgt := 17) S.1 S.2.1 dX4_takesOut_4 (by decide) (fun c_4 => ?_) (fun c_4 => ?_)
  · have hf := ite_p c_4 hf
    refine lv_aload_n S.1 S.2.1 dX4_takesOut_17 rfl (lv_at hl 0 rfl) ?_
    refine lv_iconst (v := 3) S.1 S.2.1 dX4_takesOut_18 (by decide) ?_
    refine C_put S hK hG hinX4 tyX4 tyX4_ok nmX4 0 rfl rfl 13 (by decide) (by decide +kernel) rfl rfl rfl (Nat.le_of_ble_eq_true rfl) (GWp_0_13 _ _ _ _ _ _) dX4_takesOut_19 (fun σ1 H locs e_σ1 hG => ?_)
    have hf := bnd_p e_σ1 hf
    have hc := ci_p0 (k := 13) (by decide) e_σ1 hc
    refine lv_iconst (v := 0) S.1 S.2.1 dX4_takesOut_22 (by decide) ?_
    exact r_iret S hr hlocks hG _ rfl ⟨⟨false, rfl, hf⟩, hc⟩ (bI_nar false) dX4_takesOut_23
  · have hf := ite_n c_4 hf
    refine lv_aload_n S.1 S.2.1 dX4_takesOut_7 rfl (lv_at hl 0 rfl) ?_
    refine r_get S hK hG hinX4 0 rfl rfl 1 (by decide) (by decide +kernel) rfl dX4_takesOut_8 ?_
    refine lv_iload_n S.1 S.2.1 dX4_takesOut_11 rfl (lv_at hl 1 rfl) ?_
    refine r_iald S hK hG 2 0 rfl rfl (ct_vp c_4) dX4_takesOut_12 ?_
    refine lv_iload_n S.1 S.2.1 dX4_takesOut_13 rfl (lv_at hl 2 rfl) ?_
    refine lv_icmp_ge (tgt := 24) S.1 S.2.1 dX4_takesOut_14 (by decide) (fun c_14 => ?_) (fun c_14 => ?_)
    · have hf := ite_p c_14 hf
      refine lv_aload_n S.1 S.2.1 dX4_takesOut_24 rfl (lv_at hl 0 rfl) ?_
      refine r_get S hK hG hinX4 0 rfl rfl 1 (by decide) (by decide +kernel) rfl dX4_takesOut_25 ?_
      refine lv_iload_n S.1 S.2.1 dX4_takesOut_28 rfl (lv_at hl 1 rfl) ?_
      refine lv_dup2_11 S.1 S.2.1 dX4_takesOut_29 rfl rfl ?_
      refine r_iald S hK hG 2 0 rfl rfl (ct_vp c_4) dX4_takesOut_30 ?_
      refine lv_iload_n S.1 S.2.1 dX4_takesOut_31 rfl (lv_at hl 2 rfl) ?_
      refine lv_isub S.1 S.2.1 dX4_takesOut_32 ?_
      refine C_ast S hK hG 2 6 rfl (ct_vp c_4) (GWs_2 _ _ _ _ _ _) dX4_takesOut_33 (fun σ2 H locs e_σ2 hG => ?_)
      have hf := bnd_p e_σ2 hf
      have hc := ci_row (by decide) e_σ2 hc
      refine lv_iconst (v := 1) S.1 S.2.1 dX4_takesOut_34 (by decide) ?_
      exact r_iret S hr hlocks hG _ rfl ⟨⟨true, rfl, hf⟩, hc⟩ (bI_nar true) dX4_takesOut_35
    · have hf := ite_n c_14 hf
      refine lv_aload_n S.1 S.2.1 dX4_takesOut_17 rfl (lv_at hl 0 rfl) ?_
      refine lv_iconst (v := 3) S.1 S.2.1 dX4_takesOut_18 (by decide) ?_
      refine C_put S hK hG hinX4 tyX4 tyX4_ok nmX4 0 rfl rfl 13 (by decide) (by decide +kernel) rfl rfl rfl (Nat.le_of_ble_eq_true rfl) (GWp_0_13 _ _ _ _ _ _) dX4_takesOut_19 (fun σ3 H locs e_σ3 hG => ?_)
      have hf := bnd_p e_σ3 hf
      have hc := ci_p0 (k := 13) (by decide) e_σ3 hc
      refine lv_iconst (v := 0) S.1 S.2.1 dX4_takesOut_22 (by decide) ?_
      exact r_iret S hr hlocks hG _ rfl ⟨⟨false, rfl, hf⟩, hc⟩ (bI_nar false) dX4_takesOut_23
theorem k_X4_takesOut (l : Launch) (D : va_G) (cs : Nat → ClassId) (ad : Nat → Nat) (nr nx : Nat) (σ : Mem) (x1 : Int32) (x2 : Int32) {wy : Int32} {T : Mem} (hc : CInv nr nx wy T σ) : CMi l yX4_takesOut wsX4_takesOut ({ frames := 1, cells := 0, slots := 0, locals := 20 } : Room) D vwCl (gT cs) (GW ad cs nr nx σ) [.ref (ad 0), .int x1, .int x2] (fun (r : Int32) (u : Mem) => (∃ b, r = bI b ∧ (b, u) = (f_X4_takesOut σ x1 x2)) ∧ CInv nr nx wy T u) (fun u => GW ad cs nr nx u) :=
  r_met (by decide) rfl (Nat.le_of_ble_eq_true rfl) (fun p e s m args below meth c ls S hr hlocks _ hK hA hG hl => b_X4_takesOut_0 S hr hlocks hK hA σ x1 x2 hc rfl _ _ hG ls hl)
theorem in_X4_saysShare_X2 : ∀ w ∈ wsX20, w ∈ wsX4_saysShare := by decide +kernel
theorem in_X4_saysShare_X4 : ∀ w ∈ wsX40, w ∈ wsX4_saysShare := by decide +kernel
def f_X4_saysShare (σ : Mem) (i : Nat) : Bool × Mem :=
  bnd ((f_X4_reading σ (σ (200 + i) 1)).toInt64) fun v1 =>
  bnd ((f_X4_reading σ (σ (200 + i) 2)).toInt64) fun v2 =>
  (if (lg_cmp v2 0) = 0 then
  bnd (mset σ 0 13 1) fun σ3 =>
  (false, σ3)
  else
  (if (lg_cmp (v1 / v2) ((σ (200 + i) 3).toInt64)) < 0 then
  (false, σ)
  else
  (true, σ)))
set_option maxRecDepth 100000 in
set_option maxHeartbeats 4000000 in
theorem b_X4_saysShare_0 {p : Program} {l : Launch} {e : Env} {s : State} {m : MethodId} {args : Array Value} {below : List Frame} {meth : Method} {c : Code} {D : va_G} {cs : Nat → ClassId} {ad : Nat → Nat} {nr nx : Nat} {wy : Int32} {T : Mem} {w0 : va_W} {X : Bool × Mem} (S : CallFix p m c cX4_saysShare 6 s args wsX4_saysShare RX4) (hr : meth.sig.returnType = (some .boolean)) (hlocks : meth.locks = false) (hK : va_K D vwCl (gT cs) s) (hA : ∀ q, s.heap.size ≤ q → va_A w0 s.heap.size q) (σ : Mem) (i : Nat) (hc : CInv nr nx wy T σ) (hi : i < nr) (hf : f_X4_saysShare σ i = X) (H : Heap) (locs : List Loc) (hG : wI D vwCl (va_A w0 s.heap.size) s.heap H locs (GW ad cs nr nx σ)) (ls : Array Slot) (hl : lv_has ls 6 [(0, .ref (ad 0)), (1, .ref (ad (200 + i)))]) : W p l e ({ frames := 1, cells := 0, slots := 0, locals := 21 } : Room) s m args below meth c H locs 0 0 (MQ below (va_Qi (fun (r : Int32) (u : Mem) => (∃ b, r = bI b ∧ (b, u) = X) ∧ CInv nr nx wy T u) (fun u t => wPost D vwCl w0 s.heap.size ((fun u => GW ad cs nr nx u) u) t) (va_A w0 s.heap.size)) args s 0 0 (va_A w0 s.heap.size)) (F0 m 0 ls []) := by
  have hinX2 := in_X4_saysShare_X2
  have hinX4 := in_X4_saysShare_X4
  unfold f_X4_saysShare at hf
  refine lv_aload_n S.1 S.2.1 dX4_saysShare_0 rfl (lv_at hl 0 rfl) ?_
  refine lv_aload_n S.1 S.2.1 dX4_saysShare_1 rfl (lv_at hl 1 rfl) ?_
  refine r_get S hK hG hinX2 (53 + i) (GW_ru _ _ _ _ _ hi) rfl 1 (by decide) (by decide +kernel) rfl dX4_saysShare_2 ?_
  refine r_callVi S hK hA hG (k_X4_reading l _ _ _ _ _ _ _ hc) (cwV 1 S.2.2.2.2 gX4_saysShare_X4_reading rfl rfl rfl (by decide +kernel) ⟨Nat.le_of_ble_eq_true rfl, Nat.le_of_ble_eq_true rfl⟩) (va_recv hK hG.1 (ci := 4) (q0 := 0) rfl rfl) rfl hl.1 rfl (Nat.le_of_ble_eq_true rfl) dX4_saysShare_5 ⟨Nat.le_of_ble_eq_true rfl, Nat.le_of_ble_eq_true rfl⟩ (fun r5 _ H locs hw hG => ?_)
  obtain rfl := hw
  refine lv_i2l S.1 S.2.1 dX4_saysShare_8 rfl ?_
  refine lv_topl (fun v1 e_v1 => ?_)
  have hf := bnd_p e_v1 hf
  refine lv_lstore_n (lv' := [(2, .long (v1)), (0, .ref (ad 0)), (1, .ref (ad (200 + i)))]) S.1 S.2.1 dX4_saysShare_9 rfl hl (by decide) rfl (fun ls hl => ?_)
  refine lv_aload_n S.1 S.2.1 dX4_saysShare_10 rfl (lv_at hl 1 rfl) ?_
  refine lv_aload_n S.1 S.2.1 dX4_saysShare_11 rfl (lv_at hl 2 rfl) ?_
  refine r_get S hK hG hinX2 (53 + i) (GW_ru _ _ _ _ _ hi) rfl 2 (by decide) (by decide +kernel) rfl dX4_saysShare_12 ?_
  refine r_callVi S hK hA hG (k_X4_reading l _ _ _ _ _ _ _ hc) (cwV 1 S.2.2.2.2 gX4_saysShare_X4_reading rfl rfl rfl (by decide +kernel) ⟨Nat.le_of_ble_eq_true rfl, Nat.le_of_ble_eq_true rfl⟩) (va_recv hK hG.1 (ci := 4) (q0 := 0) rfl rfl) rfl hl.1 rfl (Nat.le_of_ble_eq_true rfl) dX4_saysShare_15 ⟨Nat.le_of_ble_eq_true rfl, Nat.le_of_ble_eq_true rfl⟩ (fun r15 _ H locs hw hG => ?_)
  obtain rfl := hw
  refine lv_i2l S.1 S.2.1 dX4_saysShare_18 rfl ?_
  refine lv_topl (fun v2 e_v2 => ?_)
  have hf := bnd_p e_v2 hf
  refine lv_lstore (lv' := [(4, .long (v2)), (2, .long (v1)), (0, .ref (ad 0)), (1, .ref (ad (200 + i)))]) S.1 S.2.1 dX4_saysShare_19 hl (by decide) rfl (fun ls hl => ?_)
  refine lv_lload S.1 S.2.1 dX4_saysShare_21 (lv_at hl 0 rfl) ?_
  refine lv_lconst (v := 0) S.1 S.2.1 dX4_saysShare_23 (by decide) ?_
  refine W.lcmp S.1 S.2.1 dX4_saysShare_24 ?_
  refine lv_if_ne (tgt := 35) S.1 S.2.1 dX4_saysShare_25 (by decide) (fun c_25 => ?_) (fun c_25 => ?_)
  · have hf := ite_n c_25 hf
    refine lv_lload_n S.1 S.2.1 dX4_saysShare_35 rfl (lv_at hl 1 rfl) ?_
    refine lv_lload S.1 S.2.1 dX4_saysShare_36 (lv_at hl 0 rfl) ?_
    refine lv_ldiv S.1 S.2.1 dX4_saysShare_38 (lcmp_n0 c_25) ?_
    refine lv_aload_n S.1 S.2.1 dX4_saysShare_39 rfl (lv_at hl 3 rfl) ?_
    refine r_get S hK hG hinX2 (53 + i) (GW_ru _ _ _ _ _ hi) rfl 3 (by decide) (by decide +kernel) rfl dX4_saysShare_40 ?_
    refine lv_i2l S.1 S.2.1 dX4_saysShare_43 rfl ?_
    refine W.lcmp S.1 S.2.1 dX4_saysShare_44 ?_
    refine lv_if_lt (tgt := 52) S.1 S.2.1 dX4_saysShare_45 (by decide) (fun c_45 => ?_) (fun c_45 => ?_)
    · have hf := ite_p c_45 hf
      refine lv_iconst (v := 0) S.1 S.2.1 dX4_saysShare_52 (by decide) ?_
      exact r_iret S hr hlocks hG _ rfl ⟨⟨false, rfl, hf⟩, hc⟩ (bI_nar false) dX4_saysShare_53
    · have hf := ite_n c_45 hf
      refine lv_iconst (v := 1) S.1 S.2.1 dX4_saysShare_48 (by decide) ?_
      refine lv_goto (tgt := 53) S.1 S.2.1 dX4_saysShare_49 (by decide) ?_
      exact r_iret S hr hlocks hG _ rfl ⟨⟨true, rfl, hf⟩, hc⟩ (bI_nar true) dX4_saysShare_53
  · have hf := ite_p c_25 hf
    refine lv_aload_n S.1 S.2.1 dX4_saysShare_28 rfl (lv_at hl 2 rfl) ?_
    refine lv_iconst (v := 1) S.1 S.2.1 dX4_saysShare_29 (by decide) ?_
    refine C_put S hK hG hinX4 tyX4 tyX4_ok nmX4 0 rfl rfl 13 (by decide) (by decide +kernel) rfl rfl rfl (Nat.le_of_ble_eq_true rfl) (GWp_0_13 _ _ _ _ _ _) dX4_saysShare_30 (fun σ3 H locs e_σ3 hG => ?_)
    have hf := bnd_p e_σ3 hf
    have hc := ci_p0 (k := 13) (by decide) e_σ3 hc
    refine lv_iconst (v := 0) S.1 S.2.1 dX4_saysShare_33 (by decide) ?_
    exact r_iret S hr hlocks hG _ rfl ⟨⟨false, rfl, hf⟩, hc⟩ (bI_nar false) dX4_saysShare_34
theorem k_X4_saysShare (l : Launch) (D : va_G) (cs : Nat → ClassId) (ad : Nat → Nat) (nr nx : Nat) (σ : Mem) (i : Nat) {wy : Int32} {T : Mem} (hc : CInv nr nx wy T σ) (hi : i < nr) : CMi l yX4_saysShare wsX4_saysShare ({ frames := 1, cells := 0, slots := 0, locals := 21 } : Room) D vwCl (gT cs) (GW ad cs nr nx σ) [.ref (ad 0), .ref (ad (200 + i))] (fun (r : Int32) (u : Mem) => (∃ b, r = bI b ∧ (b, u) = (f_X4_saysShare σ i)) ∧ CInv nr nx wy T u) (fun u => GW ad cs nr nx u) :=
  r_met (by decide) rfl (Nat.le_of_ble_eq_true rfl) (fun p e s m args below meth c ls S hr hlocks _ hK hA hG hl => b_X4_saysShare_0 S hr hlocks hK hA σ i hc hi rfl _ _ hG ls hl)
theorem in_X4_saysPointed_X2 : ∀ w ∈ wsX20, w ∈ wsX4_saysPointed := by decide +kernel
theorem in_X4_saysPointed_X4 : ∀ w ∈ wsX40, w ∈ wsX4_saysPointed := by decide +kernel
def f_X4_saysPointed (σ : Mem) (i : Nat) : Bool × Mem :=
  bnd (f_X4_reading σ (σ (200 + i) 1)) fun v1 =>
  (if (bI (f_X4_isSensor v1)) = 0 then
  bnd (mset σ 0 13 2) fun σ2 =>
  (false, σ2)
  else
  (if (f_X4_reading σ v1) ≤ (σ (200 + i) 2) then
  (false, σ)
  else
  (true, σ)))
set_option maxRecDepth 100000 in
set_option maxHeartbeats 4000000 in
theorem b_X4_saysPointed_0 {p : Program} {l : Launch} {e : Env} {s : State} {m : MethodId} {args : Array Value} {below : List Frame} {meth : Method} {c : Code} {D : va_G} {cs : Nat → ClassId} {ad : Nat → Nat} {nr nx : Nat} {wy : Int32} {T : Mem} {w0 : va_W} {X : Bool × Mem} (S : CallFix p m c cX4_saysPointed 3 s args wsX4_saysPointed RX4) (hr : meth.sig.returnType = (some .boolean)) (hlocks : meth.locks = false) (hK : va_K D vwCl (gT cs) s) (hA : ∀ q, s.heap.size ≤ q → va_A w0 s.heap.size q) (σ : Mem) (i : Nat) (hc : CInv nr nx wy T σ) (hi : i < nr) (hf : f_X4_saysPointed σ i = X) (H : Heap) (locs : List Loc) (hG : wI D vwCl (va_A w0 s.heap.size) s.heap H locs (GW ad cs nr nx σ)) (ls : Array Slot) (hl : lv_has ls 3 [(0, .ref (ad 0)), (1, .ref (ad (200 + i)))]) : W p l e ({ frames := 1, cells := 0, slots := 0, locals := 21 } : Room) s m args below meth c H locs 0 0 (MQ below (va_Qi (fun (r : Int32) (u : Mem) => (∃ b, r = bI b ∧ (b, u) = X) ∧ CInv nr nx wy T u) (fun u t => wPost D vwCl w0 s.heap.size ((fun u => GW ad cs nr nx u) u) t) (va_A w0 s.heap.size)) args s 0 0 (va_A w0 s.heap.size)) (F0 m 0 ls []) := by
  have hinX2 := in_X4_saysPointed_X2
  have hinX4 := in_X4_saysPointed_X4
  unfold f_X4_saysPointed at hf
  refine lv_aload_n S.1 S.2.1 dX4_saysPointed_0 rfl (lv_at hl 0 rfl) ?_
  refine lv_aload_n S.1 S.2.1 dX4_saysPointed_1 rfl (lv_at hl 1 rfl) ?_
  refine r_get S hK hG hinX2 (53 + i) (GW_ru _ _ _ _ _ hi) rfl 1 (by decide) (by decide +kernel) rfl dX4_saysPointed_2 ?_
  refine r_callVi S hK hA hG (k_X4_reading l _ _ _ _ _ _ _ hc) (cwV 1 S.2.2.2.2 gX4_saysPointed_X4_reading rfl rfl rfl (by decide +kernel) ⟨Nat.le_of_ble_eq_true rfl, Nat.le_of_ble_eq_true rfl⟩) (va_recv hK hG.1 (ci := 4) (q0 := 0) rfl rfl) rfl hl.1 rfl (Nat.le_of_ble_eq_true rfl) dX4_saysPointed_5 ⟨Nat.le_of_ble_eq_true rfl, Nat.le_of_ble_eq_true rfl⟩ (fun r5 _ H locs hw hG => ?_)
  obtain rfl := hw
  refine lv_topi (fun v1 e_v1 => ?_)
  have hf := bnd_p e_v1 hf
  refine lv_istore_n (lv' := [(2, .int v1), (0, .ref (ad 0)), (1, .ref (ad (200 + i)))]) S.1 S.2.1 dX4_saysPointed_8 rfl hl (by decide) rfl (fun ls hl => ?_)
  refine lv_iload_n S.1 S.2.1 dX4_saysPointed_9 rfl (lv_at hl 0 rfl) ?_
  refine r_callSi S hK hA hG (k_X4_isSensor l _ _ _ _ _) (cwS 1 S.2.2.2.2 gX4_saysPointed_X4_isSensor rfl rfl rfl (by decide +kernel) ⟨Nat.le_of_ble_eq_true rfl, Nat.le_of_ble_eq_true rfl⟩) rfl hl.1 rfl (Nat.le_of_ble_eq_true rfl) dX4_saysPointed_10 ⟨Nat.le_of_ble_eq_true rfl, Nat.le_of_ble_eq_true rfl⟩ (fun r10 _ H locs hw hG => ?_)
  obtain rfl := hw
  refine lv_if_ne (tgt := 23) S.1 S.2.1 dX4_saysPointed_13 (by decide) (fun c_13 => ?_) (fun c_13 => ?_)
  · have hf := ite_n c_13 hf
    refine lv_aload_n S.1 S.2.1 dX4_saysPointed_23 rfl (lv_at hl 1 rfl) ?_
    refine lv_iload_n S.1 S.2.1 dX4_saysPointed_24 rfl (lv_at hl 0 rfl) ?_
    refine r_callVi S hK hA hG (k_X4_reading l _ _ _ _ _ _ _ hc) (cwV 1 S.2.2.2.2 gX4_saysPointed_X4_reading rfl rfl rfl (by decide +kernel) ⟨Nat.le_of_ble_eq_true rfl, Nat.le_of_ble_eq_true rfl⟩) (va_recv hK hG.1 (ci := 4) (q0 := 0) rfl rfl) rfl hl.1 rfl (Nat.le_of_ble_eq_true rfl) dX4_saysPointed_25 ⟨Nat.le_of_ble_eq_true rfl, Nat.le_of_ble_eq_true rfl⟩ (fun r25 _ H locs hw hG => ?_)
    obtain rfl := hw
    refine lv_aload_n S.1 S.2.1 dX4_saysPointed_28 rfl (lv_at hl 2 rfl) ?_
    refine r_get S hK hG hinX2 (53 + i) (GW_ru _ _ _ _ _ hi) rfl 2 (by decide) (by decide +kernel) rfl dX4_saysPointed_29 ?_
    refine lv_icmp_le (tgt := 39) S.1 S.2.1 dX4_saysPointed_32 (by decide) (fun c_32 => ?_) (fun c_32 => ?_)
    · have hf := ite_p c_32 hf
      refine lv_iconst (v := 0) S.1 S.2.1 dX4_saysPointed_39 (by decide) ?_
      exact r_iret S hr hlocks hG _ rfl ⟨⟨false, rfl, hf⟩, hc⟩ (bI_nar false) dX4_saysPointed_40
    · have hf := ite_n c_32 hf
      refine lv_iconst (v := 1) S.1 S.2.1 dX4_saysPointed_35 (by decide) ?_
      refine lv_goto (tgt := 40) S.1 S.2.1 dX4_saysPointed_36 (by decide) ?_
      exact r_iret S hr hlocks hG _ rfl ⟨⟨true, rfl, hf⟩, hc⟩ (bI_nar true) dX4_saysPointed_40
  · have hf := ite_p c_13 hf
    refine lv_aload_n S.1 S.2.1 dX4_saysPointed_16 rfl (lv_at hl 1 rfl) ?_
    refine lv_iconst (v := 2) S.1 S.2.1 dX4_saysPointed_17 (by decide) ?_
    refine C_put S hK hG hinX4 tyX4 tyX4_ok nmX4 0 rfl rfl 13 (by decide) (by decide +kernel) rfl rfl rfl (Nat.le_of_ble_eq_true rfl) (GWp_0_13 _ _ _ _ _ _) dX4_saysPointed_18 (fun σ2 H locs e_σ2 hG => ?_)
    have hf := bnd_p e_σ2 hf
    have hc := ci_p0 (k := 13) (by decide) e_σ2 hc
    refine lv_iconst (v := 0) S.1 S.2.1 dX4_saysPointed_21 (by decide) ?_
    exact r_iret S hr hlocks hG _ rfl ⟨⟨false, rfl, hf⟩, hc⟩ (bI_nar false) dX4_saysPointed_22
theorem k_X4_saysPointed (l : Launch) (D : va_G) (cs : Nat → ClassId) (ad : Nat → Nat) (nr nx : Nat) (σ : Mem) (i : Nat) {wy : Int32} {T : Mem} (hc : CInv nr nx wy T σ) (hi : i < nr) : CMi l yX4_saysPointed wsX4_saysPointed ({ frames := 1, cells := 0, slots := 0, locals := 21 } : Room) D vwCl (gT cs) (GW ad cs nr nx σ) [.ref (ad 0), .ref (ad (200 + i))] (fun (r : Int32) (u : Mem) => (∃ b, r = bI b ∧ (b, u) = (f_X4_saysPointed σ i)) ∧ CInv nr nx wy T u) (fun u => GW ad cs nr nx u) :=
  r_met (by decide) rfl (Nat.le_of_ble_eq_true rfl) (fun p e s m args below meth c ls S hr hlocks _ hK hA hG hl => b_X4_saysPointed_0 S hr hlocks hK hA σ i hc hi rfl _ _ hG ls hl)
theorem in_X4_doesPour_X0 : ∀ w ∈ wsX00, w ∈ wsX4_doesPour := by decide +kernel
theorem in_X4_doesPour_X4 : ∀ w ∈ wsX40, w ∈ wsX4_doesPour := by decide +kernel
def f_X4_doesPour (σ : Mem) (i : Nat) : Int32 × Mem :=
  bnd2 (f_X4_takesOut σ (σ (300 + i) 1) (σ (300 + i) 2)) fun b2 σ1 =>
  (if (bI b2) = 0 then
  (0, σ1)
  else
  (σ1 (300 + i) 2, σ1))
set_option maxRecDepth 100000 in
set_option maxHeartbeats 4000000 in
theorem b_X4_doesPour_0 {p : Program} {l : Launch} {e : Env} {s : State} {m : MethodId} {args : Array Value} {below : List Frame} {meth : Method} {c : Code} {D : va_G} {cs : Nat → ClassId} {ad : Nat → Nat} {nr nx : Nat} {wy : Int32} {T : Mem} {w0 : va_W} {X : Int32 × Mem} (S : CallFix p m c cX4_doesPour 2 s args wsX4_doesPour RX4) (hr : meth.sig.returnType = (some .int)) (hlocks : meth.locks = false) (hK : va_K D vwCl (gT cs) s) (hA : ∀ q, s.heap.size ≤ q → va_A w0 s.heap.size q) (σ : Mem) (i : Nat) (hc : CInv nr nx wy T σ) (hi : i < nx) (hf : f_X4_doesPour σ i = X) (H : Heap) (locs : List Loc) (hG : wI D vwCl (va_A w0 s.heap.size) s.heap H locs (GW ad cs nr nx σ)) (ls : Array Slot) (hl : lv_has ls 2 [(0, .ref (ad 0)), (1, .ref (ad (300 + i)))]) : W p l e ({ frames := 2, cells := 0, slots := 0, locals := 42 } : Room) s m args below meth c H locs 0 0 (MQ below (va_Qi (fun (r : Int32) (u : Mem) => (r, u) = X ∧ CInv nr nx wy T u) (fun u t => wPost D vwCl w0 s.heap.size ((fun u => GW ad cs nr nx u) u) t) (va_A w0 s.heap.size)) args s 0 0 (va_A w0 s.heap.size)) (F0 m 0 ls []) := by
  have hinX0 := in_X4_doesPour_X0
  have hinX4 := in_X4_doesPour_X4
  unfold f_X4_doesPour at hf
  refine lv_aload_n S.1 S.2.1 dX4_doesPour_0 rfl (lv_at hl 0 rfl) ?_
  refine lv_aload_n S.1 S.2.1 dX4_doesPour_1 rfl (lv_at hl 1 rfl) ?_
  refine r_get S hK hG hinX0 (53 + nr + i) (GW_ac _ _ _ _ _ hi) rfl 1 (by decide) (by decide +kernel) rfl dX4_doesPour_2 ?_
  refine lv_aload_n S.1 S.2.1 dX4_doesPour_5 rfl (lv_at hl 1 rfl) ?_
  refine r_get S hK hG hinX0 (53 + nr + i) (GW_ac _ _ _ _ _ hi) rfl 2 (by decide) (by decide +kernel) rfl dX4_doesPour_6 ?_
  refine r_callVi S hK hA hG (k_X4_takesOut l _ _ _ _ _ _ _ _ hc) (cwV 2 S.2.2.2.2 gX4_doesPour_X4_takesOut rfl rfl rfl (by decide +kernel) ⟨Nat.le_of_ble_eq_true rfl, Nat.le_of_ble_eq_true rfl⟩) (va_recv hK hG.1 (ci := 4) (q0 := 0) rfl rfl) rfl hl.1 rfl (Nat.le_of_ble_eq_true rfl) dX4_doesPour_9 ⟨Nat.le_of_ble_eq_true rfl, Nat.le_of_ble_eq_true rfl⟩ (fun r_ σ1 H locs hw hG => ?_)
  obtain ⟨⟨b2, rfl, e_σ1⟩, hc⟩ := hw
  have hf := bnd2_p e_σ1 hf
  refine lv_if_eq (tgt := 22) S.1 S.2.1 dX4_doesPour_12 (by decide) (fun c_12 => ?_) (fun c_12 => ?_)
  · have hf := ite_p c_12 hf
    refine lv_iconst (v := 0) S.1 S.2.1 dX4_doesPour_22 (by decide) ?_
    exact r_iret S hr hlocks hG _ rfl ⟨hf, hc⟩ rfl dX4_doesPour_23
  · have hf := ite_n c_12 hf
    refine lv_aload_n S.1 S.2.1 dX4_doesPour_15 rfl (lv_at hl 1 rfl) ?_
    refine r_get S hK hG hinX0 (53 + nr + i) (GW_ac _ _ _ _ _ hi) rfl 2 (by decide) (by decide +kernel) rfl dX4_doesPour_16 ?_
    refine lv_goto (tgt := 23) S.1 S.2.1 dX4_doesPour_19 (by decide) ?_
    exact r_iret S hr hlocks hG _ rfl ⟨hf, hc⟩ rfl dX4_doesPour_23
theorem k_X4_doesPour (l : Launch) (D : va_G) (cs : Nat → ClassId) (ad : Nat → Nat) (nr nx : Nat) (σ : Mem) (i : Nat) {wy : Int32} {T : Mem} (hc : CInv nr nx wy T σ) (hi : i < nx) : CMi l yX4_doesPour wsX4_doesPour ({ frames := 2, cells := 0, slots := 0, locals := 42 } : Room) D vwCl (gT cs) (GW ad cs nr nx σ) [.ref (ad 0), .ref (ad (300 + i))] (fun (r : Int32) (u : Mem) => (r, u) = (f_X4_doesPour σ i) ∧ CInv nr nx wy T u) (fun u => GW ad cs nr nx u) :=
  r_met (by decide) rfl (Nat.le_of_ble_eq_true rfl) (fun p e s m args below meth c ls S hr hlocks _ hK hA hG hl => b_X4_doesPour_0 S hr hlocks hK hA σ i hc hi rfl _ _ hG ls hl)
theorem in_X4_doesShow_X0 : ∀ w ∈ wsX00, w ∈ wsX4_doesShow := by decide +kernel
theorem in_X4_doesShow_X4 : ∀ w ∈ wsX40, w ∈ wsX4_doesShow := by decide +kernel
def f_X4_doesShow (σ : Mem) (i : Nat) : Int32 × Mem :=
  (if (bI (f_X4_isSensor (σ (300 + i) 1))) = 0 then
  (0, σ)
  else
  (if (bI (f_X4_isTank (σ (300 + i) 2))) = 0 then
  (0, σ)
  else
  bnd (mset σ 1 (σ (300 + i) 1).toNatClampNeg (σ 2 (σ (300 + i) 2).toNatClampNeg)) fun σ1 =>
  (σ1 2 (σ1 (300 + i) 2).toNatClampNeg, σ1)))
set_option maxRecDepth 100000 in
set_option maxHeartbeats 4000000 in
theorem b_X4_doesShow_0 {p : Program} {l : Launch} {e : Env} {s : State} {m : MethodId} {args : Array Value} {below : List Frame} {meth : Method} {c : Code} {D : va_G} {cs : Nat → ClassId} {ad : Nat → Nat} {nr nx : Nat} {wy : Int32} {T : Mem} {w0 : va_W} {X : Int32 × Mem} (S : CallFix p m c cX4_doesShow 2 s args wsX4_doesShow RX4) (hr : meth.sig.returnType = (some .int)) (hlocks : meth.locks = false) (hK : va_K D vwCl (gT cs) s) (hA : ∀ q, s.heap.size ≤ q → va_A w0 s.heap.size q) (σ : Mem) (i : Nat) (hc : CInv nr nx wy T σ) (hi : i < nx) (hf : f_X4_doesShow σ i = X) (H : Heap) (locs : List Loc) (hG : wI D vwCl (va_A w0 s.heap.size) s.heap H locs (GW ad cs nr nx σ)) (ls : Array Slot) (hl : lv_has ls 2 [(0, .ref (ad 0)), (1, .ref (ad (300 + i)))]) : W p l e ({ frames := 1, cells := 0, slots := 0, locals := 20 } : Room) s m args below meth c H locs 0 0 (MQ below (va_Qi (fun (r : Int32) (u : Mem) => (r, u) = X ∧ CInv nr nx wy T u) (fun u t => wPost D vwCl w0 s.heap.size ((fun u => GW ad cs nr nx u) u) t) (va_A w0 s.heap.size)) args s 0 0 (va_A w0 s.heap.size)) (F0 m 0 ls []) := by
  have hinX0 := in_X4_doesShow_X0
  have hinX4 := in_X4_doesShow_X4
  unfold f_X4_doesShow at hf
  have hq : CInv nr nx wy T σ := hc
  refine lv_aload_n S.1 S.2.1 dX4_doesShow_0 rfl (lv_at hl 1 rfl) ?_
  refine r_get S hK hG hinX0 (53 + nr + i) (GW_ac _ _ _ _ _ hi) rfl 1 (by decide) (by decide +kernel) rfl dX4_doesShow_1 ?_
  refine r_callSi S hK hA hG (k_X4_isSensor l _ _ _ _ _) (cwS 1 S.2.2.2.2 gX4_doesShow_X4_isSensor rfl rfl rfl (by decide +kernel) ⟨Nat.le_of_ble_eq_true rfl, Nat.le_of_ble_eq_true rfl⟩) rfl hl.1 rfl (Nat.le_of_ble_eq_true rfl) dX4_doesShow_4 ⟨Nat.le_of_ble_eq_true rfl, Nat.le_of_ble_eq_true rfl⟩ (fun r4 _ H locs hw hG => ?_)
  obtain rfl := hw
  refine lv_if_eq (tgt := 20) S.1 S.2.1 dX4_doesShow_7 (by decide) (fun c_7 => ?_) (fun c_7 => ?_)
  · have hf := ite_p c_7 hf
    refine lv_iconst (v := 0) S.1 S.2.1 dX4_doesShow_20 (by decide) ?_
    exact r_iret S hr hlocks hG _ rfl ⟨hf, hc⟩ rfl dX4_doesShow_21
  · have hf := ite_n c_7 hf
    refine lv_aload_n S.1 S.2.1 dX4_doesShow_10 rfl (lv_at hl 1 rfl) ?_
    refine r_get S hK hG hinX0 (53 + nr + i) (GW_ac _ _ _ _ _ hi) rfl 2 (by decide) (by decide +kernel) rfl dX4_doesShow_11 ?_
    refine r_callSi S hK hA hG (k_X4_isTank l _ _ _ _ _) (cwS 1 S.2.2.2.2 gX4_doesShow_X4_isTank rfl rfl rfl (by decide +kernel) ⟨Nat.le_of_ble_eq_true rfl, Nat.le_of_ble_eq_true rfl⟩) rfl hl.1 rfl (Nat.le_of_ble_eq_true rfl) dX4_doesShow_14 ⟨Nat.le_of_ble_eq_true rfl, Nat.le_of_ble_eq_true rfl⟩ (fun r14 _ H locs hw hG => ?_)
    obtain rfl := hw
    refine lv_if_ne (tgt := 22) S.1 S.2.1 dX4_doesShow_17 (by decide) (fun c_17 => ?_) (fun c_17 => ?_)
    · have hf := ite_n c_17 hf
      refine lv_aload_n S.1 S.2.1 dX4_doesShow_22 rfl (lv_at hl 0 rfl) ?_
      refine r_get S hK hG hinX4 0 rfl rfl 0 (by decide) (by decide +kernel) rfl dX4_doesShow_23 ?_
      refine lv_aload_n S.1 S.2.1 dX4_doesShow_26 rfl (lv_at hl 1 rfl) ?_
      refine r_get (v := .int (σ (300 + i) 1)) S hK hG hinX0 (53 + nr + i) (GW_ac _ _ _ _ _ hi) rfl 1 (by decide) (by decide +kernel) rfl dX4_doesShow_27 ?_
      refine lv_aload_n S.1 S.2.1 dX4_doesShow_30 rfl (lv_at hl 0 rfl) ?_
      refine r_get S hK hG hinX4 0 rfl rfl 1 (by decide) (by decide +kernel) rfl dX4_doesShow_31 ?_
      refine lv_aload_n S.1 S.2.1 dX4_doesShow_34 rfl (lv_at hl 1 rfl) ?_
      refine r_get (v := .int (σ (300 + i) 2)) S hK hG hinX0 (53 + nr + i) (GW_ac _ _ _ _ _ hi) rfl 2 (by decide) (by decide +kernel) rfl dX4_doesShow_35 ?_
      refine r_iald S hK hG 2 0 rfl rfl (ct_vp c_17) dX4_doesShow_38 ?_
      refine C_ast S hK hG 1 8 rfl (cs_vp c_7) (GWs_1 _ _ _ _ _ _) dX4_doesShow_39 (fun σ1 H locs e_σ1 hG => ?_)
      have hf := bnd_p e_σ1 hf
      have hc := ci_row (by decide) e_σ1 hc
      refine lv_aload_n S.1 S.2.1 dX4_doesShow_40 rfl (lv_at hl 0 rfl) ?_
      refine r_get S hK hG hinX4 0 rfl rfl 1 (by decide) (by decide +kernel) rfl dX4_doesShow_41 ?_
      refine lv_aload_n S.1 S.2.1 dX4_doesShow_44 rfl (lv_at hl 1 rfl) ?_
      refine r_get S hK hG hinX0 (53 + nr + i) (GW_ac _ _ _ _ _ hi) rfl 2 (by decide) (by decide +kernel) rfl dX4_doesShow_45 ?_
      refine r_iald S hK hG 2 0 rfl rfl (by rw [ac_eq hq hc]; exact ct_vp c_17) dX4_doesShow_48 ?_
      exact r_iret S hr hlocks hG _ rfl ⟨hf, hc⟩ rfl dX4_doesShow_49
    · have hf := ite_p c_17 hf
      refine lv_iconst (v := 0) S.1 S.2.1 dX4_doesShow_20 (by decide) ?_
      exact r_iret S hr hlocks hG _ rfl ⟨hf, hc⟩ rfl dX4_doesShow_21
theorem k_X4_doesShow (l : Launch) (D : va_G) (cs : Nat → ClassId) (ad : Nat → Nat) (nr nx : Nat) (σ : Mem) (i : Nat) {wy : Int32} {T : Mem} (hc : CInv nr nx wy T σ) (hi : i < nx) : CMi l yX4_doesShow wsX4_doesShow ({ frames := 1, cells := 0, slots := 0, locals := 20 } : Room) D vwCl (gT cs) (GW ad cs nr nx σ) [.ref (ad 0), .ref (ad (300 + i))] (fun (r : Int32) (u : Mem) => (r, u) = (f_X4_doesShow σ i) ∧ CInv nr nx wy T u) (fun u => GW ad cs nr nx u) :=
  r_met (by decide) rfl (Nat.le_of_ble_eq_true rfl) (fun p e s m args below meth c ls S hr hlocks _ hK hA hG hl => b_X4_doesShow_0 S hr hlocks hK hA σ i hc hi rfl _ _ hG ls hl)
theorem in_X4_doesMove_X0 : ∀ w ∈ wsX00, w ∈ wsX4_doesMove := by decide +kernel
theorem in_X4_doesMove_X4 : ∀ w ∈ wsX40, w ∈ wsX4_doesMove := by decide +kernel
def f_X4_doesMove (σ : Mem) (i : Nat) : Int32 × Mem :=
  (if (bI (f_X4_isTank (σ (300 + i) 2))) = 0 then
  (0, σ)
  else
  bnd2 (f_X4_takesOut σ (σ (300 + i) 1) (σ (300 + i) 3)) fun b2 σ1 =>
  (if (bI b2) = 0 then
  (0, σ1)
  else
  bnd (mset σ1 2 (σ1 (300 + i) 2).toNatClampNeg ((σ1 2 (σ1 (300 + i) 2).toNatClampNeg) + (σ1 (300 + i) 3))) fun σ3 =>
  (σ3 (300 + i) 3, σ3)))
set_option maxRecDepth 100000 in
set_option maxHeartbeats 4000000 in
theorem b_X4_doesMove_0 {p : Program} {l : Launch} {e : Env} {s : State} {m : MethodId} {args : Array Value} {below : List Frame} {meth : Method} {c : Code} {D : va_G} {cs : Nat → ClassId} {ad : Nat → Nat} {nr nx : Nat} {wy : Int32} {T : Mem} {w0 : va_W} {X : Int32 × Mem} (S : CallFix p m c cX4_doesMove 2 s args wsX4_doesMove RX4) (hr : meth.sig.returnType = (some .int)) (hlocks : meth.locks = false) (hK : va_K D vwCl (gT cs) s) (hA : ∀ q, s.heap.size ≤ q → va_A w0 s.heap.size q) (σ : Mem) (i : Nat) (hc : CInv nr nx wy T σ) (hi : i < nx) (hf : f_X4_doesMove σ i = X) (H : Heap) (locs : List Loc) (hG : wI D vwCl (va_A w0 s.heap.size) s.heap H locs (GW ad cs nr nx σ)) (ls : Array Slot) (hl : lv_has ls 2 [(0, .ref (ad 0)), (1, .ref (ad (300 + i)))]) : W p l e ({ frames := 2, cells := 0, slots := 0, locals := 42 } : Room) s m args below meth c H locs 0 0 (MQ below (va_Qi (fun (r : Int32) (u : Mem) => (r, u) = X ∧ CInv nr nx wy T u) (fun u t => wPost D vwCl w0 s.heap.size ((fun u => GW ad cs nr nx u) u) t) (va_A w0 s.heap.size)) args s 0 0 (va_A w0 s.heap.size)) (F0 m 0 ls []) := by
  have hinX0 := in_X4_doesMove_X0
  have hinX4 := in_X4_doesMove_X4
  unfold f_X4_doesMove at hf
  have hq : CInv nr nx wy T σ := hc
  refine lv_aload_n S.1 S.2.1 dX4_doesMove_0 rfl (lv_at hl 1 rfl) ?_
  refine r_get S hK hG hinX0 (53 + nr + i) (GW_ac _ _ _ _ _ hi) rfl 2 (by decide) (by decide +kernel) rfl dX4_doesMove_1 ?_
  refine r_callSi S hK hA hG (k_X4_isTank l _ _ _ _ _) (cwS 1 S.2.2.2.2 gX4_doesMove_X4_isTank rfl rfl rfl (by decide +kernel) ⟨Nat.le_of_ble_eq_true rfl, Nat.le_of_ble_eq_true rfl⟩) rfl hl.1 rfl (Nat.le_of_ble_eq_true rfl) dX4_doesMove_4 ⟨Nat.le_of_ble_eq_true rfl, Nat.le_of_ble_eq_true rfl⟩ (fun r4 _ H locs hw hG => ?_)
  obtain rfl := hw
  refine lv_if_eq (tgt := 25) S.1 S.2.1 dX4_doesMove_7 (by decide) (fun c_7 => ?_) (fun c_7 => ?_)
  · have hf := ite_p c_7 hf
    refine lv_iconst (v := 0) S.1 S.2.1 dX4_doesMove_25 (by decide) ?_
    exact r_iret S hr hlocks hG _ rfl ⟨hf, hc⟩ rfl dX4_doesMove_26
  · have hf := ite_n c_7 hf
    refine lv_aload_n S.1 S.2.1 dX4_doesMove_10 rfl (lv_at hl 0 rfl) ?_
    refine lv_aload_n S.1 S.2.1 dX4_doesMove_11 rfl (lv_at hl 1 rfl) ?_
    refine r_get S hK hG hinX0 (53 + nr + i) (GW_ac _ _ _ _ _ hi) rfl 1 (by decide) (by decide +kernel) rfl dX4_doesMove_12 ?_
    refine lv_aload_n S.1 S.2.1 dX4_doesMove_15 rfl (lv_at hl 1 rfl) ?_
    refine r_get S hK hG hinX0 (53 + nr + i) (GW_ac _ _ _ _ _ hi) rfl 3 (by decide) (by decide +kernel) rfl dX4_doesMove_16 ?_
    refine r_callVi S hK hA hG (k_X4_takesOut l _ _ _ _ _ _ _ _ hc) (cwV 2 S.2.2.2.2 gX4_doesMove_X4_takesOut rfl rfl rfl (by decide +kernel) ⟨Nat.le_of_ble_eq_true rfl, Nat.le_of_ble_eq_true rfl⟩) (va_recv hK hG.1 (ci := 4) (q0 := 0) rfl rfl) rfl hl.1 rfl (Nat.le_of_ble_eq_true rfl) dX4_doesMove_19 ⟨Nat.le_of_ble_eq_true rfl, Nat.le_of_ble_eq_true rfl⟩ (fun r_ σ1 H locs hw hG => ?_)
    obtain ⟨⟨b2, rfl, e_σ1⟩, hc⟩ := hw
    have hf := bnd2_p e_σ1 hf
    refine lv_if_ne (tgt := 27) S.1 S.2.1 dX4_doesMove_22 (by decide) (fun c_22 => ?_) (fun c_22 => ?_)
    · have hf := ite_n c_22 hf
      refine lv_aload_n S.1 S.2.1 dX4_doesMove_27 rfl (lv_at hl 0 rfl) ?_
      refine r_get S hK hG hinX4 0 rfl rfl 1 (by decide) (by decide +kernel) rfl dX4_doesMove_28 ?_
      refine lv_aload_n S.1 S.2.1 dX4_doesMove_31 rfl (lv_at hl 1 rfl) ?_
      refine r_get S hK hG hinX0 (53 + nr + i) (GW_ac _ _ _ _ _ hi) rfl 2 (by decide) (by decide +kernel) rfl dX4_doesMove_32 ?_
      refine lv_dup2_11 S.1 S.2.1 dX4_doesMove_35 rfl rfl ?_
      refine r_iald S hK hG 2 0 rfl rfl (by rw [ac_eq hq hc]; exact ct_vp c_7) dX4_doesMove_36 ?_
      refine lv_aload_n S.1 S.2.1 dX4_doesMove_37 rfl (lv_at hl 1 rfl) ?_
      refine r_get S hK hG hinX0 (53 + nr + i) (GW_ac _ _ _ _ _ hi) rfl 3 (by decide) (by decide +kernel) rfl dX4_doesMove_38 ?_
      refine lv_iadd S.1 S.2.1 dX4_doesMove_41 ?_
      refine C_ast S hK hG 2 6 rfl (by rw [ac_eq hq hc]; exact ct_vp c_7) (GWs_2 _ _ _ _ _ _) dX4_doesMove_42 (fun σ3 H locs e_σ3 hG => ?_)
      have hf := bnd_p e_σ3 hf
      have hc := ci_row (by decide) e_σ3 hc
      refine lv_aload_n S.1 S.2.1 dX4_doesMove_43 rfl (lv_at hl 1 rfl) ?_
      refine r_get S hK hG hinX0 (53 + nr + i) (GW_ac _ _ _ _ _ hi) rfl 3 (by decide) (by decide +kernel) rfl dX4_doesMove_44 ?_
      exact r_iret S hr hlocks hG _ rfl ⟨hf, hc⟩ rfl dX4_doesMove_47
    · have hf := ite_p c_22 hf
      refine lv_iconst (v := 0) S.1 S.2.1 dX4_doesMove_25 (by decide) ?_
      exact r_iret S hr hlocks hG _ rfl ⟨hf, hc⟩ rfl dX4_doesMove_26
theorem k_X4_doesMove (l : Launch) (D : va_G) (cs : Nat → ClassId) (ad : Nat → Nat) (nr nx : Nat) (σ : Mem) (i : Nat) {wy : Int32} {T : Mem} (hc : CInv nr nx wy T σ) (hi : i < nx) : CMi l yX4_doesMove wsX4_doesMove ({ frames := 2, cells := 0, slots := 0, locals := 42 } : Room) D vwCl (gT cs) (GW ad cs nr nx σ) [.ref (ad 0), .ref (ad (300 + i))] (fun (r : Int32) (u : Mem) => (r, u) = (f_X4_doesMove σ i) ∧ CInv nr nx wy T u) (fun u => GW ad cs nr nx u) :=
  r_met (by decide) rfl (Nat.le_of_ble_eq_true rfl) (fun p e s m args below meth c ls S hr hlocks _ hK hA hG hl => b_X4_doesMove_0 S hr hlocks hK hA σ i hc hi rfl _ _ hG ls hl)
theorem in_X4_doesLater_X0 : ∀ w ∈ wsX00, w ∈ wsX4_doesLater := by decide +kernel
theorem in_X4_doesLater_X4 : ∀ w ∈ wsX40, w ∈ wsX4_doesLater := by decide +kernel
def f_X4_doesLater (σ : Mem) (i : Nat) : Int32 × Mem :=
  bnd (f_X3_join σ (σ (300 + i) 1) ((σ 0 9) + (σ (300 + i) 2))) fun σ1 =>
  (0, σ1)
set_option maxRecDepth 100000 in
set_option maxHeartbeats 4000000 in
theorem b_X4_doesLater_0 {p : Program} {l : Launch} {e : Env} {s : State} {m : MethodId} {args : Array Value} {below : List Frame} {meth : Method} {c : Code} {D : va_G} {cs : Nat → ClassId} {ad : Nat → Nat} {nr nx : Nat} {wy : Int32} {T : Mem} {w0 : va_W} {X : Int32 × Mem} (S : CallFix p m c cX4_doesLater 2 s args wsX4_doesLater RX4) (hr : meth.sig.returnType = (some .int)) (hlocks : meth.locks = false) (hK : va_K D vwCl (gT cs) s) (hA : ∀ q, s.heap.size ≤ q → va_A w0 s.heap.size q) (σ : Mem) (i : Nat) (hc : CInv nr nx wy T σ) (hi : i < nx) (hf : f_X4_doesLater σ i = X) (H : Heap) (locs : List Loc) (hG : wI D vwCl (va_A w0 s.heap.size) s.heap H locs (GW ad cs nr nx σ)) (ls : Array Slot) (hl : lv_has ls 2 [(0, .ref (ad 0)), (1, .ref (ad (300 + i)))]) : W p l e ({ frames := 1, cells := 0, slots := 0, locals := 22 } : Room) s m args below meth c H locs 0 0 (MQ below (va_Qi (fun (r : Int32) (u : Mem) => (r, u) = X ∧ CInv nr nx wy T u) (fun u t => wPost D vwCl w0 s.heap.size ((fun u => GW ad cs nr nx u) u) t) (va_A w0 s.heap.size)) args s 0 0 (va_A w0 s.heap.size)) (F0 m 0 ls []) := by
  have hinX0 := in_X4_doesLater_X0
  have hinX4 := in_X4_doesLater_X4
  unfold f_X4_doesLater at hf
  refine lv_aload_n S.1 S.2.1 dX4_doesLater_0 rfl (lv_at hl 0 rfl) ?_
  refine r_get S hK hG hinX4 0 rfl rfl 5 (by decide) (by decide +kernel) rfl dX4_doesLater_1 ?_
  refine lv_aload_n S.1 S.2.1 dX4_doesLater_4 rfl (lv_at hl 1 rfl) ?_
  refine r_get S hK hG hinX0 (53 + nr + i) (GW_ac _ _ _ _ _ hi) rfl 1 (by decide) (by decide +kernel) rfl dX4_doesLater_5 ?_
  refine lv_aload_n S.1 S.2.1 dX4_doesLater_8 rfl (lv_at hl 0 rfl) ?_
  refine r_get S hK hG hinX4 0 rfl rfl 9 (by decide) (by decide +kernel) rfl dX4_doesLater_9 ?_
  refine lv_aload_n S.1 S.2.1 dX4_doesLater_12 rfl (lv_at hl 1 rfl) ?_
  refine r_get S hK hG hinX0 (53 + nr + i) (GW_ac _ _ _ _ _ hi) rfl 2 (by decide) (by decide +kernel) rfl dX4_doesLater_13 ?_
  refine lv_iadd S.1 S.2.1 dX4_doesLater_16 ?_
  refine r_callVv S hK hA hG (k_X3_join l _ _ _ _ _ _ _ _ hc) (cwV 2 S.2.2.2.2 gX4_doesLater_X3_join rfl rfl rfl (by decide +kernel) ⟨Nat.le_of_ble_eq_true rfl, Nat.le_of_ble_eq_true rfl⟩) (va_recv hK hG.1 (ci := 3) (q0 := 6) rfl rfl) rfl hl.1 rfl (Nat.le_of_ble_eq_true rfl) dX4_doesLater_17 ⟨Nat.le_of_ble_eq_true rfl, Nat.le_of_ble_eq_true rfl⟩ (fun σ1 H locs hw hG => ?_)
  obtain ⟨e_σ1, hc⟩ := hw
  have hf := bnd_p e_σ1 hf
  refine lv_iconst (v := 0) S.1 S.2.1 dX4_doesLater_20 (by decide) ?_
  exact r_iret S hr hlocks hG _ rfl ⟨hf, hc⟩ rfl dX4_doesLater_21
theorem k_X4_doesLater (l : Launch) (D : va_G) (cs : Nat → ClassId) (ad : Nat → Nat) (nr nx : Nat) (σ : Mem) (i : Nat) {wy : Int32} {T : Mem} (hc : CInv nr nx wy T σ) (hi : i < nx) : CMi l yX4_doesLater wsX4_doesLater ({ frames := 1, cells := 0, slots := 0, locals := 22 } : Room) D vwCl (gT cs) (GW ad cs nr nx σ) [.ref (ad 0), .ref (ad (300 + i))] (fun (r : Int32) (u : Mem) => (r, u) = (f_X4_doesLater σ i) ∧ CInv nr nx wy T u) (fun u => GW ad cs nr nx u) :=
  r_met (by decide) rfl (Nat.le_of_ble_eq_true rfl) (fun p e s m args below meth c ls S hr hlocks _ hK hA hG hl => b_X4_doesLater_0 S hr hlocks hK hA σ i hc hi rfl _ _ hG ls hl)
